theorem dX7_lay_48 : decode cX7_lay 48 = .ok (.aload 5, 2) := by decide +kernel
theorem dX7_lay_50 : decode cX7_lay 50 = .ok (.getfield 100, 3) := by decide +kernel
theorem dX7_lay_53 : decode cX7_lay 53 = .ok (.istore 6, 2) := by decide +kernel
theorem dX7_lay_55 : decode cX7_lay 55 = .ok (.iload 6, 2) := by decide +kernel
theorem dX7_lay_57 : decode cX7_lay 57 = .ok (.ifCond .ge 8, 3) := by decide +kernel
theorem dX7_lay_60 : decode cX7_lay 60 = .ok (.iconst (-1), 1) := by decide +kernel
theorem dX7_lay_61 : decode cX7_lay 61 = .ok (.istore_n 2, 1) := by decide +kernel
theorem dX7_lay_62 : decode cX7_lay 62 = .ok (.goto 203, 3) := by decide +kernel
theorem dX7_lay_65 : decode cX7_lay 65 = .ok (.aload 5, 2) := by decide +kernel
theorem dX7_lay_67 : decode cX7_lay 67 = .ok (.getfield 103, 3) := by decide +kernel
theorem dX7_lay_70 : decode cX7_lay 70 = .ok (.ifCond .ne 93, 3) := by decide +kernel
theorem dX7_lay_73 : decode cX7_lay 73 = .ok (.aload_n 0, 1) := by decide +kernel
theorem dX7_lay_74 : decode cX7_lay 74 = .ok (.getfield 10, 3) := by decide +kernel
theorem dX7_lay_77 : decode cX7_lay 77 = .ok (.iload 6, 2) := by decide +kernel
theorem dX7_lay_79 : decode cX7_lay 79 = .ok (.invokevirtual 46, 3) := by decide +kernel
theorem dX7_lay_82 : decode cX7_lay 82 = .ok (.checkcast 29, 3) := by decide +kernel
theorem dX7_lay_85 : decode cX7_lay 85 = .ok (.astore 7, 2) := by decide +kernel
theorem dX7_lay_87 : decode cX7_lay 87 = .ok (.aload_n 1, 1) := by decide +kernel
theorem dX7_lay_88 : decode cX7_lay 88 = .ok (.getfield 58, 3) := by decide +kernel
theorem dX7_lay_91 : decode cX7_lay 91 = .ok (.iconst 4, 1) := by decide +kernel
theorem dX7_lay_92 : decode cX7_lay 92 = .ok (.if_icmp .ne 7, 3) := by decide +kernel
theorem dX7_lay_95 : decode cX7_lay 95 = .ok (.iconst 0, 1) := by decide +kernel
theorem dX7_lay_96 : decode cX7_lay 96 = .ok (.goto 15, 3) := by decide +kernel
theorem dX7_lay_99 : decode cX7_lay 99 = .ok (.aload_n 0, 1) := by decide +kernel
theorem dX7_lay_100 : decode cX7_lay 100 = .ok (.getfield 91, 3) := by decide +kernel
theorem dX7_lay_103 : decode cX7_lay 103 = .ok (.aload 7, 2) := by decide +kernel
theorem dX7_lay_105 : decode cX7_lay 105 = .ok (.getfield 85, 3) := by decide +kernel
theorem dX7_lay_108 : decode cX7_lay 108 = .ok (.invokestatic 106, 3) := by decide +kernel
theorem dX7_lay_111 : decode cX7_lay 111 = .ok (.istore 8, 2) := by decide +kernel
theorem dX7_lay_113 : decode cX7_lay 113 = .ok (.aload_n 0, 1) := by decide +kernel
theorem dX7_lay_114 : decode cX7_lay 114 = .ok (.iload 8, 2) := by decide +kernel
theorem dX7_lay_116 : decode cX7_lay 116 = .ok (.iload 6, 2) := by decide +kernel
theorem dX7_lay_118 : decode cX7_lay 118 = .ok (.iconst 0, 1) := by decide +kernel
theorem dX7_lay_119 : decode cX7_lay 119 = .ok (.iconst 0, 1) := by decide +kernel
theorem dX7_lay_120 : decode cX7_lay 120 = .ok (.invokevirtual 110, 3) := by decide +kernel
theorem dX7_lay_123 : decode cX7_lay 123 = .ok (.aload_n 0, 1) := by decide +kernel
theorem dX7_lay_124 : decode cX7_lay 124 = .ok (.aload_n 0, 1) := by decide +kernel
theorem dX7_lay_125 : decode cX7_lay 125 = .ok (.getfield 91, 3) := by decide +kernel
theorem dX7_lay_128 : decode cX7_lay 128 = .ok (.iload 8, 2) := by decide +kernel
theorem dX7_lay_130 : decode cX7_lay 130 = .ok (.aload 7, 2) := by decide +kernel
theorem dX7_lay_132 : decode cX7_lay 132 = .ok (.getfield 113, 3) := by decide +kernel
theorem dX7_lay_135 : decode cX7_lay 135 = .ok (.iadd, 1) := by decide +kernel
theorem dX7_lay_136 : decode cX7_lay 136 = .ok (.invokestatic 115, 3) := by decide +kernel
theorem dX7_lay_139 : decode cX7_lay 139 = .ok (.putfield 91, 3) := by decide +kernel
theorem dX7_lay_142 : decode cX7_lay 142 = .ok (.aload_n 0, 1) := by decide +kernel
theorem dX7_lay_143 : decode cX7_lay 143 = .ok (.aload_n 0, 1) := by decide +kernel
theorem dX7_lay_144 : decode cX7_lay 144 = .ok (.getfield 94, 3) := by decide +kernel
theorem dX7_lay_147 : decode cX7_lay 147 = .ok (.aload 7, 2) := by decide +kernel
theorem dX7_lay_149 : decode cX7_lay 149 = .ok (.getfield 85, 3) := by decide +kernel
theorem dX7_lay_152 : decode cX7_lay 152 = .ok (.invokestatic 115, 3) := by decide +kernel
theorem dX7_lay_155 : decode cX7_lay 155 = .ok (.putfield 94, 3) := by decide +kernel
theorem dX7_lay_158 : decode cX7_lay 158 = .ok (.iconst (-1), 1) := by decide +kernel
theorem dX7_lay_159 : decode cX7_lay 159 = .ok (.istore_n 2, 1) := by decide +kernel
theorem dX7_lay_160 : decode cX7_lay 160 = .ok (.goto 105, 3) := by decide +kernel
theorem dX7_lay_163 : decode cX7_lay 163 = .ok (.aload_n 1, 1) := by decide +kernel
theorem dX7_lay_164 : decode cX7_lay 164 = .ok (.getfield 58, 3) := by decide +kernel
theorem dX7_lay_167 : decode cX7_lay 167 = .ok (.iconst 4, 1) := by decide +kernel
theorem dX7_lay_168 : decode cX7_lay 168 = .ok (.if_icmp .eq 19, 3) := by decide +kernel
theorem dX7_lay_171 : decode cX7_lay 171 = .ok (.iload_n 2, 1) := by decide +kernel
theorem dX7_lay_172 : decode cX7_lay 172 = .ok (.ifCond .lt 15, 3) := by decide +kernel
theorem dX7_lay_175 : decode cX7_lay 175 = .ok (.iload_n 3, 1) := by decide +kernel
theorem dX7_lay_176 : decode cX7_lay 176 = .ok (.aload 5, 2) := by decide +kernel
theorem dX7_lay_178 : decode cX7_lay 178 = .ok (.getfield 103, 3) := by decide +kernel
theorem dX7_lay_181 : decode cX7_lay 181 = .ok (.iadd, 1) := by decide +kernel
theorem dX7_lay_182 : decode cX7_lay 182 = .ok (.bipush 32, 2) := by decide +kernel
theorem dX7_lay_184 : decode cX7_lay 184 = .ok (.if_icmp .le 26, 3) := by decide +kernel
theorem dX7_lay_187 : decode cX7_lay 187 = .ok (.aload_n 1, 1) := by decide +kernel
theorem dX7_lay_188 : decode cX7_lay 188 = .ok (.getfield 58, 3) := by decide +kernel
theorem dX7_lay_191 : decode cX7_lay 191 = .ok (.iconst 4, 1) := by decide +kernel
theorem dX7_lay_192 : decode cX7_lay 192 = .ok (.if_icmp .ne 7, 3) := by decide +kernel
theorem dX7_lay_195 : decode cX7_lay 195 = .ok (.iconst 0, 1) := by decide +kernel
theorem dX7_lay_196 : decode cX7_lay 196 = .ok (.goto 11, 3) := by decide +kernel
theorem dX7_lay_199 : decode cX7_lay 199 = .ok (.aload_n 0, 1) := by decide +kernel
theorem dX7_lay_200 : decode cX7_lay 200 = .ok (.getfield 91, 3) := by decide +kernel
theorem dX7_lay_203 : decode cX7_lay 203 = .ok (.iconst 4, 1) := by decide +kernel
theorem dX7_lay_204 : decode cX7_lay 204 = .ok (.invokestatic 106, 3) := by decide +kernel
theorem dX7_lay_207 : decode cX7_lay 207 = .ok (.istore_n 2, 1) := by decide +kernel
theorem dX7_lay_208 : decode cX7_lay 208 = .ok (.iconst 0, 1) := by decide +kernel
theorem dX7_lay_209 : decode cX7_lay 209 = .ok (.istore_n 3, 1) := by decide +kernel
theorem dX7_lay_210 : decode cX7_lay 210 = .ok (.aload 5, 2) := by decide +kernel
theorem dX7_lay_212 : decode cX7_lay 212 = .ok (.getfield 120, 3) := by decide +kernel
theorem dX7_lay_215 : decode cX7_lay 215 = .ok (.ifCond .eq 16, 3) := by decide +kernel
theorem dX7_lay_218 : decode cX7_lay 218 = .ok (.aload_n 0, 1) := by decide +kernel
theorem dX7_lay_219 : decode cX7_lay 219 = .ok (.iload_n 2, 1) := by decide +kernel
theorem dX7_lay_220 : decode cX7_lay 220 = .ok (.iload 6, 2) := by decide +kernel
theorem dX7_lay_222 : decode cX7_lay 222 = .ok (.iload_n 3, 1) := by decide +kernel
theorem dX7_lay_223 : decode cX7_lay 223 = .ok (.aload 5, 2) := by decide +kernel
theorem dX7_lay_225 : decode cX7_lay 225 = .ok (.getfield 103, 3) := by decide +kernel
theorem dX7_lay_228 : decode cX7_lay 228 = .ok (.invokevirtual 110, 3) := by decide +kernel
theorem dX7_lay_231 : decode cX7_lay 231 = .ok (.iload_n 3, 1) := by decide +kernel
theorem dX7_lay_232 : decode cX7_lay 232 = .ok (.aload 5, 2) := by decide +kernel
theorem dX7_lay_234 : decode cX7_lay 234 = .ok (.getfield 103, 3) := by decide +kernel
theorem dX7_lay_237 : decode cX7_lay 237 = .ok (.iadd, 1) := by decide +kernel
theorem dX7_lay_238 : decode cX7_lay 238 = .ok (.istore_n 3, 1) := by decide +kernel
theorem dX7_lay_239 : decode cX7_lay 239 = .ok (.aload_n 0, 1) := by decide +kernel
theorem dX7_lay_240 : decode cX7_lay 240 = .ok (.aload_n 0, 1) := by decide +kernel
theorem dX7_lay_241 : decode cX7_lay 241 = .ok (.getfield 91, 3) := by decide +kernel
theorem dX7_lay_244 : decode cX7_lay 244 = .ok (.iload_n 2, 1) := by decide +kernel
theorem dX7_lay_245 : decode cX7_lay 245 = .ok (.iconst 4, 1) := by decide +kernel
theorem dX7_lay_246 : decode cX7_lay 246 = .ok (.iadd, 1) := by decide +kernel
theorem dX7_lay_247 : decode cX7_lay 247 = .ok (.invokestatic 115, 3) := by decide +kernel
theorem dX7_lay_250 : decode cX7_lay 250 = .ok (.putfield 91, 3) := by decide +kernel
theorem dX7_lay_253 : decode cX7_lay 253 = .ok (.aload_n 0, 1) := by decide +kernel
theorem dX7_lay_254 : decode cX7_lay 254 = .ok (.aload_n 0, 1) := by decide +kernel
theorem dX7_lay_255 : decode cX7_lay 255 = .ok (.getfield 94, 3) := by decide +kernel
theorem dX7_lay_258 : decode cX7_lay 258 = .ok (.iconst 4, 1) := by decide +kernel
theorem dX7_lay_259 : decode cX7_lay 259 = .ok (.invokestatic 115, 3) := by decide +kernel
theorem dX7_lay_262 : decode cX7_lay 262 = .ok (.putfield 94, 3) := by decide +kernel
theorem dX7_lay_265 : decode cX7_lay 265 = .ok (.iinc 4 1, 3) := by decide +kernel
theorem dX7_lay_268 : decode cX7_lay 268 = .ok (.goto (-246), 3) := by decide +kernel
theorem dX7_lay_271 : decode cX7_lay 271 = .ok (.return_, 1) := by decide +kernel
theorem dX7_put_0 : decode cX7_put 0 = .ok (.aload_n 0, 1) := by decide +kernel
theorem dX7_put_1 : decode cX7_put 1 = .ok (.getfield 16, 3) := by decide +kernel
theorem dX7_put_4 : decode cX7_put 4 = .ok (.aload_n 0, 1) := by decide +kernel
theorem dX7_put_5 : decode cX7_put 5 = .ok (.getfield 88, 3) := by decide +kernel
theorem dX7_put_8 : decode cX7_put 8 = .ok (.iload_n 1, 1) := by decide +kernel
theorem dX7_put_9 : decode cX7_put 9 = .ok (.iastore, 1) := by decide +kernel
theorem dX7_put_10 : decode cX7_put 10 = .ok (.aload_n 0, 1) := by decide +kernel
theorem dX7_put_11 : decode cX7_put 11 = .ok (.getfield 20, 3) := by decide +kernel
theorem dX7_put_14 : decode cX7_put 14 = .ok (.aload_n 0, 1) := by decide +kernel
theorem dX7_put_15 : decode cX7_put 15 = .ok (.getfield 88, 3) := by decide +kernel
theorem dX7_put_18 : decode cX7_put 18 = .ok (.iload_n 2, 1) := by decide +kernel
theorem dX7_put_19 : decode cX7_put 19 = .ok (.iastore, 1) := by decide +kernel
theorem dX7_put_20 : decode cX7_put 20 = .ok (.aload_n 0, 1) := by decide +kernel
theorem dX7_put_21 : decode cX7_put 21 = .ok (.getfield 23, 3) := by decide +kernel
theorem dX7_put_24 : decode cX7_put 24 = .ok (.aload_n 0, 1) := by decide +kernel
theorem dX7_put_25 : decode cX7_put 25 = .ok (.getfield 88, 3) := by decide +kernel
theorem dX7_put_28 : decode cX7_put 28 = .ok (.iload_n 3, 1) := by decide +kernel
theorem dX7_put_29 : decode cX7_put 29 = .ok (.iastore, 1) := by decide +kernel
theorem dX7_put_30 : decode cX7_put 30 = .ok (.aload_n 0, 1) := by decide +kernel
theorem dX7_put_31 : decode cX7_put 31 = .ok (.getfield 26, 3) := by decide +kernel
theorem dX7_put_34 : decode cX7_put 34 = .ok (.aload_n 0, 1) := by decide +kernel
theorem dX7_put_35 : decode cX7_put 35 = .ok (.getfield 88, 3) := by decide +kernel
theorem dX7_put_38 : decode cX7_put 38 = .ok (.iload 4, 2) := by decide +kernel
theorem dX7_put_40 : decode cX7_put 40 = .ok (.iastore, 1) := by decide +kernel
theorem dX7_put_41 : decode cX7_put 41 = .ok (.aload_n 0, 1) := by decide +kernel
theorem dX7_put_42 : decode cX7_put 42 = .ok (.aload_n 0, 1) := by decide +kernel
theorem dX7_put_43 : decode cX7_put 43 = .ok (.getfield 88, 3) := by decide +kernel
theorem dX7_put_46 : decode cX7_put 46 = .ok (.iconst 1, 1) := by decide +kernel
theorem dX7_put_47 : decode cX7_put 47 = .ok (.iadd, 1) := by decide +kernel
theorem dX7_put_48 : decode cX7_put 48 = .ok (.putfield 88, 3) := by decide +kernel
theorem dX7_put_51 : decode cX7_put 51 = .ok (.return_, 1) := by decide +kernel
set_option maxRecDepth 20000 in
theorem ggX7_tried_X5_init : GoodIn wsX7_tried wsX5_init := goodIn_r _ [11, 12, 13, 14, 15, 16, 17, 136, 137, 138] (by decide +kernel) (by decide +kernel)
set_option maxRecDepth 20000 in
theorem gX7_tried_X5_init : GoodIn wsX7_tried (wsX5_init) := ggX7_tried_X5_init
set_option maxRecDepth 20000 in
theorem ggX7_tried_Jx4a65c_add_9ea2d : GoodIn wsX7_tried wsJx4a65c_add_9ea2d := goodIn_r _ [22, 23, 24, 25, 26, 27, 28, 29, 21, 30, 31, 32, 33, 34, 35, 36, 37, 38, 39, 40, 41, 42, 43, 44, 45, 46, 47, 48, 49, 50, 51, 52, 53, 54, 55, 56, 57, 58, 59, 60, 61, 62, 63, 64, 65, 66, 67, 68, 69, 70, 71, 72, 73, 147, 148, 149] (by decide +kernel) (by decide +kernel)
set_option maxRecDepth 20000 in
theorem gX7_tried_Jx4a65c_add_9ea2d : GoodIn wsX7_tried (wsV RX7 34 RJx4a65c yJx4a65c_add_9ea2d wsJx4a65c_add_9ea2d) := goodIn_app (goodIn_of _ (by decide +kernel)) ggX7_tried_Jx4a65c_add_9ea2d
set_option maxRecDepth 20000 in
theorem ggX7_tried_X7_lay : GoodIn wsX7_tried wsX7_lay := goodIn_r _ [78, 8, 5, 79, 1, 7, 80, 81, 82, 83, 84, 85, 86, 87, 41, 42, 43, 88, 89, 90, 91, 21, 92, 26, 93, 94, 95, 96, 97, 98, 99, 100, 101, 102, 103, 104, 105, 106, 107, 108, 25, 109, 110, 77, 111, 112, 113, 114, 115, 116, 117, 118, 119, 139, 140, 141, 142, 143, 144, 145, 146, 129, 130, 131, 132, 133, 134, 135, 136, 137, 138, 147, 148, 149] (by decide +kernel) (by decide +kernel)
set_option maxRecDepth 20000 in
theorem gX7_tried_X7_lay : GoodIn wsX7_tried (wsV RX7 126 RX7 yX7_lay wsX7_lay) := goodIn_app (goodIn_of _ (by decide +kernel)) ggX7_tried_X7_lay
set_option maxRecDepth 20000 in
theorem ggX7_tried_Jx4a65c_size_8abf5 : GoodIn wsX7_tried wsJx4a65c_size_8abf5 := goodIn_r _ [92, 26, 147, 148, 149] (by decide +kernel) (by decide +kernel)
set_option maxRecDepth 20000 in
theorem gX7_tried_Jx4a65c_size_8abf5 : GoodIn wsX7_tried (wsV RX7 38 RJx4a65c yJx4a65c_size_8abf5 wsJx4a65c_size_8abf5) := goodIn_app (goodIn_of _ (by decide +kernel)) ggX7_tried_Jx4a65c_size_8abf5
set_option maxRecDepth 20000 in
theorem ggX7_tried_Jx4a65c_remove_915e3 : GoodIn wsX7_tried wsJx4a65c_remove_915e3 := goodIn_r _ [123, 26, 25, 97, 98, 99, 100, 101, 102, 103, 104, 124, 125, 126, 21, 127, 23, 24, 128, 71, 72, 73, 147, 148, 149] (by decide +kernel) (by decide +kernel)
set_option maxRecDepth 20000 in
theorem gX7_tried_Jx4a65c_remove_915e3 : GoodIn wsX7_tried (wsV RX7 130 RJx4a65c yJx4a65c_remove_915e3 wsJx4a65c_remove_915e3) := goodIn_app (goodIn_of _ (by decide +kernel)) ggX7_tried_Jx4a65c_remove_915e3
theorem dX7_tried_0 : decode cX7_tried 0 = .ok (.aload_n 1, 1) := by decide +kernel
theorem dX7_tried_1 : decode cX7_tried 1 = .ok (.getfield 95, 3) := by decide +kernel
theorem dX7_tried_4 : decode cX7_tried 4 = .ok (.new 98, 3) := by decide +kernel
theorem dX7_tried_7 : decode cX7_tried 7 = .ok (.dup, 1) := by decide +kernel
theorem dX7_tried_8 : decode cX7_tried 8 = .ok (.iload_n 2, 1) := by decide +kernel
theorem dX7_tried_9 : decode cX7_tried 9 = .ok (.iload_n 3, 1) := by decide +kernel
theorem dX7_tried_10 : decode cX7_tried 10 = .ok (.iload 4, 2) := by decide +kernel
theorem dX7_tried_12 : decode cX7_tried 12 = .ok (.iconst 1, 1) := by decide +kernel
theorem dX7_tried_13 : decode cX7_tried 13 = .ok (.if_icmp .ne 7, 3) := by decide +kernel
theorem dX7_tried_16 : decode cX7_tried 16 = .ok (.iconst 1, 1) := by decide +kernel
theorem dX7_tried_17 : decode cX7_tried 17 = .ok (.goto 4, 3) := by decide +kernel
theorem dX7_tried_20 : decode cX7_tried 20 = .ok (.iconst 0, 1) := by decide +kernel
theorem dX7_tried_21 : decode cX7_tried 21 = .ok (.invokespecial 123, 3) := by decide +kernel
theorem dX7_tried_24 : decode cX7_tried 24 = .ok (.invokevirtual 34, 3) := by decide +kernel
theorem dX7_tried_27 : decode cX7_tried 27 = .ok (.pop, 1) := by decide +kernel
theorem dX7_tried_28 : decode cX7_tried 28 = .ok (.aload_n 0, 1) := by decide +kernel
theorem dX7_tried_29 : decode cX7_tried 29 = .ok (.aload_n 1, 1) := by decide +kernel
theorem dX7_tried_30 : decode cX7_tried 30 = .ok (.invokevirtual 126, 3) := by decide +kernel
theorem dX7_tried_33 : decode cX7_tried 33 = .ok (.aload_n 0, 1) := by decide +kernel
theorem dX7_tried_34 : decode cX7_tried 34 = .ok (.getfield 91, 3) := by decide +kernel
theorem dX7_tried_37 : decode cX7_tried 37 = .ok (.ldc 76, 2) := by decide +kernel
theorem dX7_tried_39 : decode cX7_tried 39 = .ok (.if_icmp .le 27, 3) := by decide +kernel
theorem dX7_tried_42 : decode cX7_tried 42 = .ok (.aload_n 1, 1) := by decide +kernel
theorem dX7_tried_43 : decode cX7_tried 43 = .ok (.getfield 95, 3) := by decide +kernel
theorem dX7_tried_46 : decode cX7_tried 46 = .ok (.aload_n 1, 1) := by decide +kernel
theorem dX7_tried_47 : decode cX7_tried 47 = .ok (.getfield 95, 3) := by decide +kernel
theorem dX7_tried_50 : decode cX7_tried 50 = .ok (.invokevirtual 38, 3) := by decide +kernel
theorem dX7_tried_53 : decode cX7_tried 53 = .ok (.iconst 1, 1) := by decide +kernel
theorem dX7_tried_54 : decode cX7_tried 54 = .ok (.isub, 1) := by decide +kernel
theorem dX7_tried_55 : decode cX7_tried 55 = .ok (.invokevirtual 130, 3) := by decide +kernel
theorem dX7_tried_58 : decode cX7_tried 58 = .ok (.checkcast 98, 3) := by decide +kernel
theorem dX7_tried_61 : decode cX7_tried 61 = .ok (.astore 5, 2) := by decide +kernel
theorem dX7_tried_63 : decode cX7_tried 63 = .ok (.bipush (-4), 2) := by decide +kernel
theorem dX7_tried_65 : decode cX7_tried 65 = .ok (.ireturn, 1) := by decide +kernel
theorem dX7_tried_66 : decode cX7_tried 66 = .ok (.iload 4, 2) := by decide +kernel
theorem dX7_tried_68 : decode cX7_tried 68 = .ok (.iconst 1, 1) := by decide +kernel
theorem dX7_tried_69 : decode cX7_tried 69 = .ok (.if_icmp .ne 12, 3) := by decide +kernel
theorem dX7_tried_72 : decode cX7_tried 72 = .ok (.aload_n 0, 1) := by decide +kernel
theorem dX7_tried_73 : decode cX7_tried 73 = .ok (.getfield 88, 3) := by decide +kernel
theorem dX7_tried_76 : decode cX7_tried 76 = .ok (.iconst 1, 1) := by decide +kernel
theorem dX7_tried_77 : decode cX7_tried 77 = .ok (.isub, 1) := by decide +kernel
theorem dX7_tried_78 : decode cX7_tried 78 = .ok (.goto 5, 3) := by decide +kernel
theorem dX7_tried_81 : decode cX7_tried 81 = .ok (.bipush 100, 2) := by decide +kernel
theorem dX7_tried_83 : decode cX7_tried 83 = .ok (.ireturn, 1) := by decide +kernel
set_option maxRecDepth 20000 in
theorem ggX7_field_X7_open : GoodIn wsX7_field wsX7_open := goodIn_r _ [6, 7, 8, 9, 10, 11, 12, 5, 13, 14, 15, 16, 17, 18, 19, 20, 21, 22, 23, 24, 25, 26, 27, 28, 29, 30, 31, 32, 33, 34, 35, 36, 37, 38, 39, 40, 41, 42, 152, 153, 154, 155, 156, 157, 158, 159, 160, 161, 162, 163, 164, 165, 166, 167, 168, 169] (by decide +kernel) (by decide +kernel)
set_option maxRecDepth 20000 in
theorem gX7_field_X7_open : GoodIn wsX7_field (wsV RX7 133 RX7 yX7_open wsX7_open) := goodIn_app (goodIn_of _ (by decide +kernel)) ggX7_field_X7_open
set_option maxRecDepth 20000 in
theorem ggX7_field_X7_there : GoodIn wsX7_field wsX7_there := goodIn_r _ [13, 7, 14, 15, 16, 17, 18, 19, 152, 153, 154, 155, 156, 157, 158, 159, 167, 168, 169] (by decide +kernel) (by decide +kernel)
set_option maxRecDepth 20000 in
theorem gX7_field_X7_there : GoodIn wsX7_field (wsV RX7 42 RX7 yX7_there wsX7_there) := goodIn_app (goodIn_of _ (by decide +kernel)) ggX7_field_X7_there
set_option maxRecDepth 20000 in
theorem ggX7_field_X7_sized : GoodIn wsX7_field wsX7_sized := goodIn_r _ [46, 7, 8, 9, 20, 21, 22, 17, 23, 19, 24, 25, 26, 27, 28, 29, 30, 31, 32, 33, 34, 35, 36, 37, 38, 39, 40, 41, 42, 152, 153, 154, 155, 156, 157, 158, 159, 160, 161, 162, 163, 164, 165, 166, 167, 168, 169] (by decide +kernel) (by decide +kernel)
set_option maxRecDepth 20000 in
theorem gX7_field_X7_sized : GoodIn wsX7_field (wsV RX7 77 RX7 yX7_sized wsX7_sized) := goodIn_app (goodIn_of _ (by decide +kernel)) ggX7_field_X7_sized
set_option maxRecDepth 20000 in
theorem ggX7_field_X7_lay : GoodIn wsX7_field wsX7_lay := goodIn_r _ [50, 1, 51, 52, 53, 54, 55, 56, 7, 8, 57, 58, 59, 60, 61, 62, 63, 64, 14, 15, 16, 17, 18, 19, 20, 21, 22, 23, 24, 25, 26, 27, 28, 29, 30, 31, 32, 33, 34, 35, 36, 65, 66, 5, 67, 68, 69, 70, 71, 72, 73, 74, 75, 152, 153, 154, 155, 156, 157, 158, 159, 160, 161, 162, 163, 164, 165, 166, 170, 171, 172, 167, 168, 169] (by decide +kernel) (by decide +kernel)
set_option maxRecDepth 20000 in
theorem gX7_field_X7_lay : GoodIn wsX7_field (wsV RX7 126 RX7 yX7_lay wsX7_lay) := goodIn_app (goodIn_of _ (by decide +kernel)) ggX7_field_X7_lay
set_option maxRecDepth 20000 in
theorem ggX7_field_X7_tried : GoodIn wsX7_field wsX7_tried := goodIn_r _ [79, 53, 80, 81, 82, 51, 83, 54, 1, 84, 85, 86, 87, 88, 89, 90, 91, 92, 93, 94, 95, 17, 96, 97, 98, 36, 19, 99, 100, 101, 102, 103, 104, 105, 106, 107, 108, 109, 110, 111, 112, 61, 62, 63, 113, 114, 115, 116, 117, 118, 119, 120, 121, 122, 123, 124, 125, 126, 127, 128, 129, 130, 131, 132, 133, 134, 135, 136, 137, 138, 139, 140, 141, 142, 47, 48, 49, 5, 50, 52, 55, 56, 7, 8, 57, 58, 59, 60, 64, 14, 15, 16, 18, 20, 21, 22, 23, 24, 25, 26, 27, 28, 29, 30, 31, 32, 33, 34, 35, 65, 66, 67, 68, 69, 70, 71, 72, 73, 74, 75, 143, 144, 145, 146, 147, 148, 149, 150, 151, 160, 161, 162, 163, 164, 165, 166, 170, 171, 172, 152, 153, 154, 155, 156, 157, 158, 159, 167, 168, 169] (by decide +kernel) (by decide +kernel)
set_option maxRecDepth 20000 in
theorem gX7_field_X7_tried : GoodIn wsX7_field (wsV RX7 137 RX7 yX7_tried wsX7_tried) := goodIn_app (goodIn_of _ (by decide +kernel)) ggX7_field_X7_tried
theorem dX7_field_0 : decode cX7_field 0 = .ok (.aload_n 0, 1) := by decide +kernel
theorem dX7_field_1 : decode cX7_field 1 = .ok (.iload_n 1, 1) := by decide +kernel
theorem dX7_field_2 : decode cX7_field 2 = .ok (.invokevirtual 133, 3) := by decide +kernel
theorem dX7_field_5 : decode cX7_field 5 = .ok (.astore_n 3, 1) := by decide +kernel
theorem dX7_field_6 : decode cX7_field 6 = .ok (.aload_n 3, 1) := by decide +kernel
theorem dX7_field_7 : decode cX7_field 7 = .ok (.ifnull 11, 3) := by decide +kernel
theorem dX7_field_10 : decode cX7_field 10 = .ok (.aload_n 0, 1) := by decide +kernel
theorem dX7_field_11 : decode cX7_field 11 = .ok (.iload_n 2, 1) := by decide +kernel
theorem dX7_field_12 : decode cX7_field 12 = .ok (.invokevirtual 42, 3) := by decide +kernel
theorem dX7_field_15 : decode cX7_field 15 = .ok (.ifCond .ne 5, 3) := by decide +kernel
theorem dX7_field_18 : decode cX7_field 18 = .ok (.iconst (-1), 1) := by decide +kernel
theorem dX7_field_19 : decode cX7_field 19 = .ok (.ireturn, 1) := by decide +kernel
theorem dX7_field_20 : decode cX7_field 20 = .ok (.aload_n 0, 1) := by decide +kernel
theorem dX7_field_21 : decode cX7_field 21 = .ok (.iload_n 2, 1) := by decide +kernel
theorem dX7_field_22 : decode cX7_field 22 = .ok (.invokevirtual 77, 3) := by decide +kernel
theorem dX7_field_25 : decode cX7_field 25 = .ok (.ifCond .ne 6, 3) := by decide +kernel
theorem dX7_field_28 : decode cX7_field 28 = .ok (.bipush (-2), 2) := by decide +kernel
theorem dX7_field_30 : decode cX7_field 30 = .ok (.ireturn, 1) := by decide +kernel
theorem dX7_field_31 : decode cX7_field 31 = .ok (.aload_n 0, 1) := by decide +kernel
theorem dX7_field_32 : decode cX7_field 32 = .ok (.aload_n 3, 1) := by decide +kernel
theorem dX7_field_33 : decode cX7_field 33 = .ok (.invokevirtual 126, 3) := by decide +kernel
theorem dX7_field_36 : decode cX7_field 36 = .ok (.aload_n 0, 1) := by decide +kernel
theorem dX7_field_37 : decode cX7_field 37 = .ok (.getfield 88, 3) := by decide +kernel
theorem dX7_field_40 : decode cX7_field 40 = .ok (.bipush 100, 2) := by decide +kernel
theorem dX7_field_42 : decode cX7_field 42 = .ok (.if_icmp .ne 8, 3) := by decide +kernel
theorem dX7_field_45 : decode cX7_field 45 = .ok (.bipush (-3), 2) := by decide +kernel
theorem dX7_field_47 : decode cX7_field 47 = .ok (.goto 11, 3) := by decide +kernel
theorem dX7_field_50 : decode cX7_field 50 = .ok (.aload_n 0, 1) := by decide +kernel
theorem dX7_field_51 : decode cX7_field 51 = .ok (.aload_n 3, 1) := by decide +kernel
theorem dX7_field_52 : decode cX7_field 52 = .ok (.iload_n 2, 1) := by decide +kernel
theorem dX7_field_53 : decode cX7_field 53 = .ok (.iconst 0, 1) := by decide +kernel
theorem dX7_field_54 : decode cX7_field 54 = .ok (.iconst 1, 1) := by decide +kernel
theorem dX7_field_55 : decode cX7_field 55 = .ok (.invokevirtual 137, 3) := by decide +kernel
theorem dX7_field_58 : decode cX7_field 58 = .ok (.ireturn, 1) := by decide +kernel
set_option maxRecDepth 20000 in
theorem ggX7_bits_X7_open : GoodIn wsX7_bits wsX7_open := goodIn_r _ [6, 7, 8, 9, 10, 11, 12, 5, 13, 14, 15, 16, 17, 18, 19, 20, 21, 22, 23, 24, 25, 26, 27, 28, 29, 30, 31, 32, 33, 34, 35, 36, 37, 38, 39, 40, 41, 42, 148, 149, 150, 151, 152, 153, 154, 155, 156, 157, 158, 159, 160, 161, 162, 163, 164, 165] (by decide +kernel) (by decide +kernel)
set_option maxRecDepth 20000 in
theorem gX7_bits_X7_open : GoodIn wsX7_bits (wsV RX7 133 RX7 yX7_open wsX7_open) := goodIn_app (goodIn_of _ (by decide +kernel)) ggX7_bits_X7_open
set_option maxRecDepth 20000 in
theorem ggX7_bits_X7_lay : GoodIn wsX7_bits wsX7_lay := goodIn_r _ [46, 1, 47, 48, 49, 50, 51, 52, 7, 8, 53, 54, 55, 56, 57, 58, 59, 60, 14, 15, 16, 17, 18, 19, 20, 21, 22, 23, 24, 25, 26, 27, 28, 29, 30, 31, 32, 33, 34, 35, 36, 61, 62, 5, 63, 64, 65, 66, 67, 68, 69, 70, 71, 148, 149, 150, 151, 152, 153, 154, 155, 156, 157, 158, 159, 160, 161, 162, 166, 167, 168, 163, 164, 165] (by decide +kernel) (by decide +kernel)
set_option maxRecDepth 20000 in
theorem gX7_bits_X7_lay : GoodIn wsX7_bits (wsV RX7 126 RX7 yX7_lay wsX7_lay) := goodIn_app (goodIn_of _ (by decide +kernel)) ggX7_bits_X7_lay
set_option maxRecDepth 20000 in
theorem ggX7_bits_X7_tried : GoodIn wsX7_bits wsX7_tried := goodIn_r _ [75, 49, 76, 77, 78, 47, 79, 50, 1, 80, 81, 82, 83, 84, 85, 86, 87, 88, 89, 90, 91, 17, 92, 93, 94, 36, 19, 95, 96, 97, 98, 99, 100, 101, 102, 103, 104, 105, 106, 107, 108, 57, 58, 59, 109, 110, 111, 112, 113, 114, 115, 116, 117, 118, 119, 120, 121, 122, 123, 124, 125, 126, 127, 128, 129, 130, 131, 132, 133, 134, 135, 136, 137, 138, 43, 44, 45, 5, 46, 48, 51, 52, 7, 8, 53, 54, 55, 56, 60, 14, 15, 16, 18, 20, 21, 22, 23, 24, 25, 26, 27, 28, 29, 30, 31, 32, 33, 34, 35, 61, 62, 63, 64, 65, 66, 67, 68, 69, 70, 71, 139, 140, 141, 142, 143, 144, 145, 146, 147, 156, 157, 158, 159, 160, 161, 162, 166, 167, 168, 148, 149, 150, 151, 152, 153, 154, 155, 163, 164, 165] (by decide +kernel) (by decide +kernel)
set_option maxRecDepth 20000 in
theorem gX7_bits_X7_tried : GoodIn wsX7_bits (wsV RX7 137 RX7 yX7_tried wsX7_tried) := goodIn_app (goodIn_of _ (by decide +kernel)) ggX7_bits_X7_tried
theorem dX7_bits_0 : decode cX7_bits 0 = .ok (.aload_n 0, 1) := by decide +kernel
theorem dX7_bits_1 : decode cX7_bits 1 = .ok (.iload_n 1, 1) := by decide +kernel
theorem dX7_bits_2 : decode cX7_bits 2 = .ok (.invokevirtual 133, 3) := by decide +kernel
theorem dX7_bits_5 : decode cX7_bits 5 = .ok (.astore 5, 2) := by decide +kernel
theorem dX7_bits_7 : decode cX7_bits 7 = .ok (.aload 5, 2) := by decide +kernel
theorem dX7_bits_9 : decode cX7_bits 9 = .ok (.ifnonnull 5, 3) := by decide +kernel
theorem dX7_bits_12 : decode cX7_bits 12 = .ok (.iconst (-1), 1) := by decide +kernel
theorem dX7_bits_13 : decode cX7_bits 13 = .ok (.ireturn, 1) := by decide +kernel
theorem dX7_bits_14 : decode cX7_bits 14 = .ok (.iload_n 2, 1) := by decide +kernel
theorem dX7_bits_15 : decode cX7_bits 15 = .ok (.iconst 5, 1) := by decide +kernel
theorem dX7_bits_16 : decode cX7_bits 16 = .ok (.if_icmp .eq 9, 3) := by decide +kernel
theorem dX7_bits_19 : decode cX7_bits 19 = .ok (.iload_n 2, 1) := by decide +kernel
theorem dX7_bits_20 : decode cX7_bits 20 = .ok (.bipush 6, 2) := by decide +kernel
theorem dX7_bits_22 : decode cX7_bits 22 = .ok (.if_icmp .ne 14, 3) := by decide +kernel
theorem dX7_bits_25 : decode cX7_bits 25 = .ok (.iload_n 3, 1) := by decide +kernel
theorem dX7_bits_26 : decode cX7_bits 26 = .ok (.iconst 1, 1) := by decide +kernel
theorem dX7_bits_27 : decode cX7_bits 27 = .ok (.if_icmp .lt 9, 3) := by decide +kernel
theorem dX7_bits_30 : decode cX7_bits 30 = .ok (.iload_n 3, 1) := by decide +kernel
theorem dX7_bits_31 : decode cX7_bits 31 = .ok (.bipush 32, 2) := by decide +kernel
theorem dX7_bits_33 : decode cX7_bits 33 = .ok (.if_icmp .le 6, 3) := by decide +kernel
theorem dX7_bits_36 : decode cX7_bits 36 = .ok (.bipush (-2), 2) := by decide +kernel
theorem dX7_bits_38 : decode cX7_bits 38 = .ok (.ireturn, 1) := by decide +kernel
theorem dX7_bits_39 : decode cX7_bits 39 = .ok (.aload_n 0, 1) := by decide +kernel
theorem dX7_bits_40 : decode cX7_bits 40 = .ok (.aload 5, 2) := by decide +kernel
theorem dX7_bits_42 : decode cX7_bits 42 = .ok (.invokevirtual 126, 3) := by decide +kernel
theorem dX7_bits_45 : decode cX7_bits 45 = .ok (.iload 4, 2) := by decide +kernel
theorem dX7_bits_47 : decode cX7_bits 47 = .ok (.ifCond .eq 17, 3) := by decide +kernel
theorem dX7_bits_50 : decode cX7_bits 50 = .ok (.aload_n 0, 1) := by decide +kernel
theorem dX7_bits_51 : decode cX7_bits 51 = .ok (.getfield 88, 3) := by decide +kernel
theorem dX7_bits_54 : decode cX7_bits 54 = .ok (.bipush 100, 2) := by decide +kernel
theorem dX7_bits_56 : decode cX7_bits 56 = .ok (.if_icmp .ne 8, 3) := by decide +kernel
theorem dX7_bits_59 : decode cX7_bits 59 = .ok (.bipush (-3), 2) := by decide +kernel
theorem dX7_bits_61 : decode cX7_bits 61 = .ok (.goto 21, 3) := by decide +kernel
theorem dX7_bits_64 : decode cX7_bits 64 = .ok (.aload_n 0, 1) := by decide +kernel
theorem dX7_bits_65 : decode cX7_bits 65 = .ok (.aload 5, 2) := by decide +kernel
theorem dX7_bits_67 : decode cX7_bits 67 = .ok (.iload_n 2, 1) := by decide +kernel
theorem dX7_bits_68 : decode cX7_bits 68 = .ok (.iload_n 3, 1) := by decide +kernel
theorem dX7_bits_69 : decode cX7_bits 69 = .ok (.iload 4, 2) := by decide +kernel
theorem dX7_bits_71 : decode cX7_bits 71 = .ok (.ifCond .eq 7, 3) := by decide +kernel
theorem dX7_bits_74 : decode cX7_bits 74 = .ok (.iconst 1, 1) := by decide +kernel
theorem dX7_bits_75 : decode cX7_bits 75 = .ok (.goto 4, 3) := by decide +kernel
theorem dX7_bits_78 : decode cX7_bits 78 = .ok (.iconst 0, 1) := by decide +kernel
theorem dX7_bits_79 : decode cX7_bits 79 = .ok (.invokevirtual 137, 3) := by decide +kernel
theorem dX7_bits_82 : decode cX7_bits 82 = .ok (.ireturn, 1) := by decide +kernel
set_option maxRecDepth 20000 in
theorem ggX7_separate_X7_open : GoodIn wsX7_separate wsX7_open := goodIn_r _ [9, 10, 11, 12, 13, 14, 15, 8, 16, 17, 18, 19, 20, 21, 22, 23, 24, 25, 26, 27, 28, 29, 30, 31, 32, 33, 34, 35, 36, 37, 38, 39, 40, 41, 42, 43, 44, 45, 118, 119, 120, 121, 122, 123, 124, 125, 108, 109, 110, 111, 112, 113, 114, 126, 127, 128] (by decide +kernel) (by decide +kernel)
set_option maxRecDepth 20000 in
theorem gX7_separate_X7_open : GoodIn wsX7_separate (wsV RX7 133 RX7 yX7_open wsX7_open) := goodIn_app (goodIn_of _ (by decide +kernel)) ggX7_separate_X7_open
set_option maxRecDepth 20000 in
theorem ggX7_separate_X5_init : GoodIn wsX7_separate wsX5_init := goodIn_r _ [48, 49, 50, 51, 52, 53, 54, 115, 116, 117] (by decide +kernel) (by decide +kernel)
set_option maxRecDepth 20000 in
theorem gX7_separate_X5_init : GoodIn wsX7_separate (wsX5_init) := ggX7_separate_X5_init
set_option maxRecDepth 20000 in
theorem ggX7_separate_Jx4a65c_add_9ea2d : GoodIn wsX7_separate wsJx4a65c_add_9ea2d := goodIn_r _ [58, 59, 60, 39, 22, 61, 62, 63, 20, 64, 65, 66, 67, 68, 69, 70, 71, 72, 73, 74, 75, 76, 77, 78, 79, 80, 81, 82, 83, 84, 85, 86, 87, 88, 89, 90, 91, 92, 93, 94, 95, 96, 97, 98, 99, 100, 101, 102, 103, 104, 105, 106, 107, 126, 127, 128] (by decide +kernel) (by decide +kernel)
set_option maxRecDepth 20000 in
theorem gX7_separate_Jx4a65c_add_9ea2d : GoodIn wsX7_separate (wsV RX7 34 RJx4a65c yJx4a65c_add_9ea2d wsJx4a65c_add_9ea2d) := goodIn_app (goodIn_of _ (by decide +kernel)) ggX7_separate_Jx4a65c_add_9ea2d
theorem dX7_separate_0 : decode cX7_separate 0 = .ok (.aload_n 0, 1) := by decide +kernel
theorem dX7_separate_1 : decode cX7_separate 1 = .ok (.iload_n 1, 1) := by decide +kernel
theorem dX7_separate_2 : decode cX7_separate 2 = .ok (.invokevirtual 133, 3) := by decide +kernel
theorem dX7_separate_5 : decode cX7_separate 5 = .ok (.astore_n 2, 1) := by decide +kernel
theorem dX7_separate_6 : decode cX7_separate 6 = .ok (.aload_n 2, 1) := by decide +kernel
theorem dX7_separate_7 : decode cX7_separate 7 = .ok (.ifnonnull 5, 3) := by decide +kernel
theorem dX7_separate_10 : decode cX7_separate 10 = .ok (.iconst 0, 1) := by decide +kernel
theorem dX7_separate_11 : decode cX7_separate 11 = .ok (.ireturn, 1) := by decide +kernel
theorem dX7_separate_12 : decode cX7_separate 12 = .ok (.aload_n 2, 1) := by decide +kernel
theorem dX7_separate_13 : decode cX7_separate 13 = .ok (.getfield 95, 3) := by decide +kernel
theorem dX7_separate_16 : decode cX7_separate 16 = .ok (.new 98, 3) := by decide +kernel
theorem dX7_separate_19 : decode cX7_separate 19 = .ok (.dup, 1) := by decide +kernel
theorem dX7_separate_20 : decode cX7_separate 20 = .ok (.iconst (-1), 1) := by decide +kernel
theorem dX7_separate_21 : decode cX7_separate 21 = .ok (.iconst 0, 1) := by decide +kernel
theorem dX7_separate_22 : decode cX7_separate 22 = .ok (.iconst 0, 1) := by decide +kernel
theorem dX7_separate_23 : decode cX7_separate 23 = .ok (.invokespecial 123, 3) := by decide +kernel
theorem dX7_separate_26 : decode cX7_separate 26 = .ok (.invokevirtual 34, 3) := by decide +kernel
theorem dX7_separate_29 : decode cX7_separate 29 = .ok (.pop, 1) := by decide +kernel
theorem dX7_separate_30 : decode cX7_separate 30 = .ok (.iconst 1, 1) := by decide +kernel
theorem dX7_separate_31 : decode cX7_separate 31 = .ok (.ireturn, 1) := by decide +kernel
set_option maxRecDepth 20000 in
theorem ggX7_finish_X7_open : GoodIn wsX7_finish wsX7_open := goodIn_r _ [12, 13, 14, 5, 15, 16, 17, 11, 18, 19, 20, 21, 22, 23, 24, 25, 26, 27, 28, 29, 30, 31, 32, 33, 34, 35, 36, 37, 38, 39, 40, 41, 42, 43, 44, 45, 46, 47, 73, 74, 75, 76, 77, 78, 79, 80, 81, 82, 83, 84, 85, 86, 87, 88, 89, 90] (by decide +kernel) (by decide +kernel)
set_option maxRecDepth 20000 in
theorem gX7_finish_X7_open : GoodIn wsX7_finish (wsV RX7 133 RX7 yX7_open wsX7_open) := goodIn_app (goodIn_of _ (by decide +kernel)) ggX7_finish_X7_open
set_option maxRecDepth 20000 in
theorem ggX7_finish_X7_lay : GoodIn wsX7_finish wsX7_lay := goodIn_r _ [51, 1, 2, 3, 52, 53, 54, 55, 13, 14, 56, 7, 6, 57, 58, 59, 60, 61, 19, 20, 21, 22, 23, 24, 25, 26, 27, 28, 29, 30, 31, 32, 33, 34, 35, 36, 37, 38, 39, 40, 41, 62, 63, 11, 64, 65, 66, 67, 68, 69, 70, 71, 72, 73, 74, 75, 76, 77, 78, 79, 80, 81, 82, 83, 84, 85, 86, 87, 91, 92, 93, 88, 89, 90] (by decide +kernel) (by decide +kernel)
set_option maxRecDepth 20000 in
theorem gX7_finish_X7_lay : GoodIn wsX7_finish (wsV RX7 126 RX7 yX7_lay wsX7_lay) := goodIn_app (goodIn_of _ (by decide +kernel)) ggX7_finish_X7_lay
set_option maxRecDepth 20000 in
theorem ggX7_finish_X7_up : GoodIn wsX7_finish wsX7_up := goodIn_r _ [64] (by decide +kernel) (by decide +kernel)
set_option maxRecDepth 20000 in
theorem gX7_finish_X7_up : GoodIn wsX7_finish (va_wsS RX7 106 yX7_up wsX7_up) := goodIn_app (goodIn_of _ (by decide +kernel)) ggX7_finish_X7_up
theorem dX7_finish_0 : decode cX7_finish 0 = .ok (.aload_n 0, 1) := by decide +kernel
theorem dX7_finish_1 : decode cX7_finish 1 = .ok (.iload_n 1, 1) := by decide +kernel
theorem dX7_finish_2 : decode cX7_finish 2 = .ok (.invokevirtual 133, 3) := by decide +kernel
theorem dX7_finish_5 : decode cX7_finish 5 = .ok (.astore_n 2, 1) := by decide +kernel
theorem dX7_finish_6 : decode cX7_finish 6 = .ok (.aload_n 2, 1) := by decide +kernel
theorem dX7_finish_7 : decode cX7_finish 7 = .ok (.ifnonnull 5, 3) := by decide +kernel
theorem dX7_finish_10 : decode cX7_finish 10 = .ok (.iconst (-1), 1) := by decide +kernel
theorem dX7_finish_11 : decode cX7_finish 11 = .ok (.ireturn, 1) := by decide +kernel
theorem dX7_finish_12 : decode cX7_finish 12 = .ok (.aload_n 0, 1) := by decide +kernel
theorem dX7_finish_13 : decode cX7_finish 13 = .ok (.aload_n 2, 1) := by decide +kernel
theorem dX7_finish_14 : decode cX7_finish 14 = .ok (.invokevirtual 126, 3) := by decide +kernel
theorem dX7_finish_17 : decode cX7_finish 17 = .ok (.aload_n 0, 1) := by decide +kernel
theorem dX7_finish_18 : decode cX7_finish 18 = .ok (.getfield 88, 3) := by decide +kernel
theorem dX7_finish_21 : decode cX7_finish 21 = .ok (.ifCond .ne 6, 3) := by decide +kernel
theorem dX7_finish_24 : decode cX7_finish 24 = .ok (.bipush (-2), 2) := by decide +kernel
theorem dX7_finish_26 : decode cX7_finish 26 = .ok (.ireturn, 1) := by decide +kernel
theorem dX7_finish_27 : decode cX7_finish 27 = .ok (.aload_n 0, 1) := by decide +kernel
theorem dX7_finish_28 : decode cX7_finish 28 = .ok (.getfield 91, 3) := by decide +kernel
theorem dX7_finish_31 : decode cX7_finish 31 = .ok (.aload_n 0, 1) := by decide +kernel
theorem dX7_finish_32 : decode cX7_finish 32 = .ok (.getfield 94, 3) := by decide +kernel
theorem dX7_finish_35 : decode cX7_finish 35 = .ok (.invokestatic 106, 3) := by decide +kernel
theorem dX7_finish_38 : decode cX7_finish 38 = .ok (.ldc 76, 2) := by decide +kernel
theorem dX7_finish_40 : decode cX7_finish 40 = .ok (.if_icmp .le 6, 3) := by decide +kernel
theorem dX7_finish_43 : decode cX7_finish 43 = .ok (.bipush (-3), 2) := by decide +kernel
theorem dX7_finish_45 : decode cX7_finish 45 = .ok (.ireturn, 1) := by decide +kernel
theorem dX7_finish_46 : decode cX7_finish 46 = .ok (.aload_n 2, 1) := by decide +kernel
theorem dX7_finish_47 : decode cX7_finish 47 = .ok (.iconst 1, 1) := by decide +kernel
theorem dX7_finish_48 : decode cX7_finish 48 = .ok (.putfield 54, 3) := by decide +kernel
theorem dX7_finish_51 : decode cX7_finish 51 = .ok (.aload_n 2, 1) := by decide +kernel
theorem dX7_finish_52 : decode cX7_finish 52 = .ok (.aload_n 0, 1) := by decide +kernel
theorem dX7_finish_53 : decode cX7_finish 53 = .ok (.getfield 91, 3) := by decide +kernel
theorem dX7_finish_56 : decode cX7_finish 56 = .ok (.aload_n 0, 1) := by decide +kernel
theorem dX7_finish_57 : decode cX7_finish 57 = .ok (.getfield 94, 3) := by decide +kernel
theorem dX7_finish_60 : decode cX7_finish 60 = .ok (.invokestatic 106, 3) := by decide +kernel
theorem dX7_finish_63 : decode cX7_finish 63 = .ok (.putfield 113, 3) := by decide +kernel
theorem dX7_finish_66 : decode cX7_finish 66 = .ok (.aload_n 2, 1) := by decide +kernel
theorem dX7_finish_67 : decode cX7_finish 67 = .ok (.aload_n 0, 1) := by decide +kernel
theorem dX7_finish_68 : decode cX7_finish 68 = .ok (.getfield 94, 3) := by decide +kernel
theorem dX7_finish_71 : decode cX7_finish 71 = .ok (.putfield 85, 3) := by decide +kernel
theorem dX7_finish_74 : decode cX7_finish 74 = .ok (.aload_n 2, 1) := by decide +kernel
theorem dX7_finish_75 : decode cX7_finish 75 = .ok (.getfield 113, 3) := by decide +kernel
theorem dX7_finish_78 : decode cX7_finish 78 = .ok (.ireturn, 1) := by decide +kernel
set_option maxRecDepth 20000 in
theorem ggX7_types_Jx4a65c_size_8abf5 : GoodIn wsX7_types wsJx4a65c_size_8abf5 := goodIn_r _ [6, 7, 16, 17, 18] (by decide +kernel) (by decide +kernel)
set_option maxRecDepth 20000 in
theorem gX7_types_Jx4a65c_size_8abf5 : GoodIn wsX7_types (wsV RX7 38 RJx4a65c yJx4a65c_size_8abf5 wsJx4a65c_size_8abf5) := goodIn_app (goodIn_of _ (by decide +kernel)) ggX7_types_Jx4a65c_size_8abf5
theorem dX7_types_0 : decode cX7_types 0 = .ok (.aload_n 0, 1) := by decide +kernel
theorem dX7_types_1 : decode cX7_types 1 = .ok (.getfield 10, 3) := by decide +kernel
theorem dX7_types_4 : decode cX7_types 4 = .ok (.invokevirtual 38, 3) := by decide +kernel
theorem dX7_types_7 : decode cX7_types 7 = .ok (.ireturn, 1) := by decide +kernel
set_option maxRecDepth 20000 in
theorem ggX7_size_X7_there : GoodIn wsX7_size wsX7_there := goodIn_r _ [8, 1, 9, 10, 11, 12, 13, 14, 32, 33, 34, 35, 36, 37, 38, 39, 47, 48, 49] (by decide +kernel) (by decide +kernel)
set_option maxRecDepth 20000 in
theorem gX7_size_X7_there : GoodIn wsX7_size (wsV RX7 42 RX7 yX7_there wsX7_there) := goodIn_app (goodIn_of _ (by decide +kernel)) ggX7_size_X7_there
set_option maxRecDepth 20000 in
theorem ggX7_size_Jx4a65c_get_915e3 : GoodIn wsX7_size wsJx4a65c_get_915e3 := goodIn_r _ [18, 14, 19, 20, 21, 22, 23, 24, 25, 26, 27, 28, 29, 12, 30, 31, 47, 48, 49] (by decide +kernel) (by decide +kernel)
set_option maxRecDepth 20000 in
theorem gX7_size_Jx4a65c_get_915e3 : GoodIn wsX7_size (wsV RX7 46 RJx4a65c yJx4a65c_get_915e3 wsJx4a65c_get_915e3) := goodIn_app (goodIn_of _ (by decide +kernel)) ggX7_size_Jx4a65c_get_915e3
theorem dX7_size_0 : decode cX7_size 0 = .ok (.aload_n 0, 1) := by decide +kernel
theorem dX7_size_1 : decode cX7_size 1 = .ok (.iload_n 1, 1) := by decide +kernel
theorem dX7_size_2 : decode cX7_size 2 = .ok (.invokevirtual 42, 3) := by decide +kernel
theorem dX7_size_5 : decode cX7_size 5 = .ok (.ifCond .eq 20, 3) := by decide +kernel
theorem dX7_size_8 : decode cX7_size 8 = .ok (.aload_n 0, 1) := by decide +kernel
theorem dX7_size_9 : decode cX7_size 9 = .ok (.getfield 10, 3) := by decide +kernel
theorem dX7_size_12 : decode cX7_size 12 = .ok (.iload_n 1, 1) := by decide +kernel
theorem dX7_size_13 : decode cX7_size 13 = .ok (.invokevirtual 46, 3) := by decide +kernel
theorem dX7_size_16 : decode cX7_size 16 = .ok (.checkcast 29, 3) := by decide +kernel
theorem dX7_size_19 : decode cX7_size 19 = .ok (.getfield 113, 3) := by decide +kernel
theorem dX7_size_22 : decode cX7_size 22 = .ok (.goto 4, 3) := by decide +kernel
theorem dX7_size_25 : decode cX7_size 25 = .ok (.iconst (-1), 1) := by decide +kernel
theorem dX7_size_26 : decode cX7_size 26 = .ok (.ireturn, 1) := by decide +kernel
set_option maxRecDepth 20000 in
theorem ggX7_align_X7_there : GoodIn wsX7_align wsX7_there := goodIn_r _ [10, 1, 11, 12, 13, 14, 15, 16, 68, 69, 70, 71, 72, 73, 74, 75, 83, 84, 85] (by decide +kernel) (by decide +kernel)
set_option maxRecDepth 20000 in
theorem gX7_align_X7_there : GoodIn wsX7_align (wsV RX7 42 RX7 yX7_there wsX7_there) := goodIn_app (goodIn_of _ (by decide +kernel)) ggX7_align_X7_there
set_option maxRecDepth 20000 in
theorem ggX7_align_Jx4a65c_get_915e3 : GoodIn wsX7_align wsJx4a65c_get_915e3 := goodIn_r _ [20, 16, 21, 22, 23, 24, 25, 26, 27, 28, 29, 30, 31, 14, 32, 33, 83, 84, 85] (by decide +kernel) (by decide +kernel)
set_option maxRecDepth 20000 in
theorem gX7_align_Jx4a65c_get_915e3 : GoodIn wsX7_align (wsV RX7 46 RJx4a65c yJx4a65c_get_915e3 wsJx4a65c_get_915e3) := goodIn_app (goodIn_of _ (by decide +kernel)) ggX7_align_Jx4a65c_get_915e3
set_option maxRecDepth 20000 in
theorem ggX7_align_X6_record : GoodIn wsX7_align wsX6_record := goodIn_r _ [38, 39, 76, 77, 78, 79, 80, 81, 82] (by decide +kernel) (by decide +kernel)
set_option maxRecDepth 20000 in
theorem gX7_align_X6_record : GoodIn wsX7_align (wsV RX7 50 RX6 yX6_record wsX6_record) := goodIn_app (goodIn_of _ (by decide +kernel)) ggX7_align_X6_record
set_option maxRecDepth 20000 in
theorem ggX7_align_X7_lay : GoodIn wsX7_align wsX7_lay := goodIn_r _ [43, 44, 45, 5, 46, 47, 48, 49, 1, 2, 50, 4, 51, 52, 53, 54, 55, 56, 11, 12, 13, 14, 15, 16, 17, 18, 19, 20, 21, 22, 23, 24, 25, 26, 27, 28, 29, 30, 31, 32, 33, 57, 58, 9, 59, 60, 61, 62, 63, 64, 65, 66, 67, 68, 69, 70, 71, 72, 73, 74, 75, 76, 77, 78, 79, 80, 81, 82, 86, 87, 88, 83, 84, 85] (by decide +kernel) (by decide +kernel)
set_option maxRecDepth 20000 in
theorem gX7_align_X7_lay : GoodIn wsX7_align (wsV RX7 126 RX7 yX7_lay wsX7_lay) := goodIn_app (goodIn_of _ (by decide +kernel)) ggX7_align_X7_lay
theorem dX7_align_0 : decode cX7_align 0 = .ok (.aload_n 0, 1) := by decide +kernel
theorem dX7_align_1 : decode cX7_align 1 = .ok (.iload_n 1, 1) := by decide +kernel
theorem dX7_align_2 : decode cX7_align 2 = .ok (.invokevirtual 42, 3) := by decide +kernel
theorem dX7_align_5 : decode cX7_align 5 = .ok (.ifCond .ne 5, 3) := by decide +kernel
theorem dX7_align_8 : decode cX7_align 8 = .ok (.iconst (-1), 1) := by decide +kernel
theorem dX7_align_9 : decode cX7_align 9 = .ok (.ireturn, 1) := by decide +kernel
theorem dX7_align_10 : decode cX7_align 10 = .ok (.aload_n 0, 1) := by decide +kernel
theorem dX7_align_11 : decode cX7_align 11 = .ok (.getfield 10, 3) := by decide +kernel
theorem dX7_align_14 : decode cX7_align 14 = .ok (.iload_n 1, 1) := by decide +kernel
theorem dX7_align_15 : decode cX7_align 15 = .ok (.invokevirtual 46, 3) := by decide +kernel
theorem dX7_align_18 : decode cX7_align 18 = .ok (.checkcast 29, 3) := by decide +kernel
theorem dX7_align_21 : decode cX7_align 21 = .ok (.astore_n 2, 1) := by decide +kernel
theorem dX7_align_22 : decode cX7_align 22 = .ok (.aload_n 2, 1) := by decide +kernel
theorem dX7_align_23 : decode cX7_align 23 = .ok (.invokevirtual 50, 3) := by decide +kernel
theorem dX7_align_26 : decode cX7_align 26 = .ok (.ifCond .eq 10, 3) := by decide +kernel
theorem dX7_align_29 : decode cX7_align 29 = .ok (.aload_n 2, 1) := by decide +kernel
theorem dX7_align_30 : decode cX7_align 30 = .ok (.getfield 54, 3) := by decide +kernel
theorem dX7_align_33 : decode cX7_align 33 = .ok (.ifCond .eq 8, 3) := by decide +kernel
theorem dX7_align_36 : decode cX7_align 36 = .ok (.aload_n 2, 1) := by decide +kernel
theorem dX7_align_37 : decode cX7_align 37 = .ok (.getfield 85, 3) := by decide +kernel
theorem dX7_align_40 : decode cX7_align 40 = .ok (.ireturn, 1) := by decide +kernel
theorem dX7_align_41 : decode cX7_align 41 = .ok (.aload_n 0, 1) := by decide +kernel
theorem dX7_align_42 : decode cX7_align 42 = .ok (.aload_n 2, 1) := by decide +kernel
theorem dX7_align_43 : decode cX7_align 43 = .ok (.invokevirtual 126, 3) := by decide +kernel
theorem dX7_align_46 : decode cX7_align 46 = .ok (.aload_n 0, 1) := by decide +kernel
