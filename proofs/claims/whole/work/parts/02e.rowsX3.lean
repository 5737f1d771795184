theorem dX3_init_0 : decode cX3_init 0 = .ok (.aload_n 0, 1) := by decide +kernel
theorem dX3_init_1 : decode cX3_init 1 = .ok (.invokespecial 3, 3) := by decide +kernel
theorem dX3_init_4 : decode cX3_init 4 = .ok (.aload_n 0, 1) := by decide +kernel
theorem dX3_init_5 : decode cX3_init 5 = .ok (.bipush 16, 2) := by decide +kernel
theorem dX3_init_7 : decode cX3_init 7 = .ok (.newarray .long, 2) := by decide +kernel
theorem dX3_init_9 : decode cX3_init 9 = .ok (.putfield 9, 3) := by decide +kernel
theorem dX3_init_12 : decode cX3_init 12 = .ok (.aload_n 0, 1) := by decide +kernel
theorem dX3_init_13 : decode cX3_init 13 = .ok (.bipush 16, 2) := by decide +kernel
theorem dX3_init_15 : decode cX3_init 15 = .ok (.newarray .long, 2) := by decide +kernel
theorem dX3_init_17 : decode cX3_init 17 = .ok (.putfield 15, 3) := by decide +kernel
theorem dX3_init_20 : decode cX3_init 20 = .ok (.return_, 1) := by decide +kernel
theorem dX3_thrown_0 : decode cX3_thrown 0 = .ok (.aload_n 0, 1) := by decide +kernel
theorem dX3_thrown_1 : decode cX3_thrown 1 = .ok (.getfield 18, 3) := by decide +kernel
theorem dX3_thrown_4 : decode cX3_thrown 4 = .ok (.ireturn, 1) := by decide +kernel
theorem dX3_no_0 : decode cX3_no 0 = .ok (.aload_n 0, 1) := by decide +kernel
theorem dX3_no_1 : decode cX3_no 1 = .ok (.iload_n 1, 1) := by decide +kernel
theorem dX3_no_2 : decode cX3_no 2 = .ok (.putfield 18, 3) := by decide +kernel
theorem dX3_no_5 : decode cX3_no 5 = .ok (.iconst 0, 1) := by decide +kernel
theorem dX3_no_6 : decode cX3_no 6 = .ok (.ireturn, 1) := by decide +kernel
theorem dX3_isRange_0 : decode cX3_isRange 0 = .ok (.iload_n 0, 1) := by decide +kernel
theorem dX3_isRange_1 : decode cX3_isRange 1 = .ok (.ifCond .lt 13, 3) := by decide +kernel
theorem dX3_isRange_4 : decode cX3_isRange 4 = .ok (.iload_n 0, 1) := by decide +kernel
theorem dX3_isRange_5 : decode cX3_isRange 5 = .ok (.bipush 16, 2) := by decide +kernel
theorem dX3_isRange_7 : decode cX3_isRange 7 = .ok (.if_icmp .ge 7, 3) := by decide +kernel
theorem dX3_isRange_10 : decode cX3_isRange 10 = .ok (.iconst 1, 1) := by decide +kernel
theorem dX3_isRange_11 : decode cX3_isRange 11 = .ok (.goto 4, 3) := by decide +kernel
theorem dX3_isRange_14 : decode cX3_isRange 14 = .ok (.iconst 0, 1) := by decide +kernel
theorem dX3_isRange_15 : decode cX3_isRange 15 = .ok (.ireturn, 1) := by decide +kernel
set_option maxRecDepth 20000 in
theorem ggX3_reckon_X3_reckon : GoodIn wsX3_reckon wsX3_reckon := goodIn_r _ [0, 1, 2, 3, 4, 5, 6, 7, 8, 9, 10, 11, 12, 13, 14] (by decide +kernel) (by decide +kernel)
set_option maxRecDepth 20000 in
theorem gX3_reckon_X3_reckon : GoodIn wsX3_reckon (va_wsS RX3 26 yX3_reckon wsX3_reckon) := goodIn_app (goodIn_of _ (by decide +kernel)) ggX3_reckon_X3_reckon
set_option maxRecDepth 20000 in
theorem ggX3_reckon_J13_divideUnsigned_f86c9 : GoodIn wsX3_reckon wsJ13_divideUnsigned_f86c9 := goodIn_r _ [10, 11] (by decide +kernel) (by decide +kernel)
set_option maxRecDepth 20000 in
theorem gX3_reckon_J13_divideUnsigned_f86c9 : GoodIn wsX3_reckon (va_wsS RX3 30 yJ13_divideUnsigned_f86c9 wsJ13_divideUnsigned_f86c9) := goodIn_app (goodIn_of _ (by decide +kernel)) ggX3_reckon_J13_divideUnsigned_f86c9
set_option maxRecDepth 20000 in
theorem ggX3_reckon_J13_remainderUnsigned_f86c9 : GoodIn wsX3_reckon wsJ13_remainderUnsigned_f86c9 := goodIn_r _ [14, 11] (by decide +kernel) (by decide +kernel)
set_option maxRecDepth 20000 in
theorem gX3_reckon_J13_remainderUnsigned_f86c9 : GoodIn wsX3_reckon (va_wsS RX3 34 yJ13_remainderUnsigned_f86c9 wsJ13_remainderUnsigned_f86c9) := goodIn_app (goodIn_of _ (by decide +kernel)) ggX3_reckon_J13_remainderUnsigned_f86c9
theorem dX3_reckon_0 : decode cX3_reckon 0 = .ok (.iload 5, 2) := by decide +kernel
theorem dX3_reckon_2 : decode cX3_reckon 2 = .ok (.ifCond .eq 103, 3) := by decide +kernel
theorem dX3_reckon_5 : decode cX3_reckon 5 = .ok (.lload_n 1, 1) := by decide +kernel
theorem dX3_reckon_6 : decode cX3_reckon 6 = .ok (.ldc2_w 22, 3) := by decide +kernel
theorem dX3_reckon_9 : decode cX3_reckon 9 = .ok (.land, 1) := by decide +kernel
theorem dX3_reckon_10 : decode cX3_reckon 10 = .ok (.lstore 6, 2) := by decide +kernel
theorem dX3_reckon_12 : decode cX3_reckon 12 = .ok (.lload_n 3, 1) := by decide +kernel
theorem dX3_reckon_13 : decode cX3_reckon 13 = .ok (.ldc2_w 22, 3) := by decide +kernel
theorem dX3_reckon_16 : decode cX3_reckon 16 = .ok (.land, 1) := by decide +kernel
theorem dX3_reckon_17 : decode cX3_reckon 17 = .ok (.lstore 8, 2) := by decide +kernel
theorem dX3_reckon_19 : decode cX3_reckon 19 = .ok (.iload_n 0, 1) := by decide +kernel
theorem dX3_reckon_20 : decode cX3_reckon 20 = .ok (.tableswitch 71 9 11 #[28, 43, 54], 28) := by decide +kernel
theorem dX3_reckon_48 : decode cX3_reckon 48 = .ok (.lload 6, 2) := by decide +kernel
theorem dX3_reckon_50 : decode cX3_reckon 50 = .ok (.lload 8, 2) := by decide +kernel
theorem dX3_reckon_52 : decode cX3_reckon 52 = .ok (.ldc2_w 24, 3) := by decide +kernel
theorem dX3_reckon_55 : decode cX3_reckon 55 = .ok (.land, 1) := by decide +kernel
theorem dX3_reckon_56 : decode cX3_reckon 56 = .ok (.l2i, 1) := by decide +kernel
theorem dX3_reckon_57 : decode cX3_reckon 57 = .ok (.lshl, 1) := by decide +kernel
theorem dX3_reckon_58 : decode cX3_reckon 58 = .ok (.ldc2_w 22, 3) := by decide +kernel
theorem dX3_reckon_61 : decode cX3_reckon 61 = .ok (.land, 1) := by decide +kernel
theorem dX3_reckon_62 : decode cX3_reckon 62 = .ok (.lreturn, 1) := by decide +kernel
theorem dX3_reckon_63 : decode cX3_reckon 63 = .ok (.lload 6, 2) := by decide +kernel
theorem dX3_reckon_65 : decode cX3_reckon 65 = .ok (.lload 8, 2) := by decide +kernel
theorem dX3_reckon_67 : decode cX3_reckon 67 = .ok (.ldc2_w 24, 3) := by decide +kernel
theorem dX3_reckon_70 : decode cX3_reckon 70 = .ok (.land, 1) := by decide +kernel
theorem dX3_reckon_71 : decode cX3_reckon 71 = .ok (.l2i, 1) := by decide +kernel
theorem dX3_reckon_72 : decode cX3_reckon 72 = .ok (.lushr, 1) := by decide +kernel
theorem dX3_reckon_73 : decode cX3_reckon 73 = .ok (.lreturn, 1) := by decide +kernel
theorem dX3_reckon_74 : decode cX3_reckon 74 = .ok (.lload 6, 2) := by decide +kernel
theorem dX3_reckon_76 : decode cX3_reckon 76 = .ok (.l2i, 1) := by decide +kernel
theorem dX3_reckon_77 : decode cX3_reckon 77 = .ok (.lload 8, 2) := by decide +kernel
theorem dX3_reckon_79 : decode cX3_reckon 79 = .ok (.ldc2_w 24, 3) := by decide +kernel
theorem dX3_reckon_82 : decode cX3_reckon 82 = .ok (.land, 1) := by decide +kernel
theorem dX3_reckon_83 : decode cX3_reckon 83 = .ok (.l2i, 1) := by decide +kernel
theorem dX3_reckon_84 : decode cX3_reckon 84 = .ok (.ishr, 1) := by decide +kernel
theorem dX3_reckon_85 : decode cX3_reckon 85 = .ok (.i2l, 1) := by decide +kernel
theorem dX3_reckon_86 : decode cX3_reckon 86 = .ok (.ldc2_w 22, 3) := by decide +kernel
theorem dX3_reckon_89 : decode cX3_reckon 89 = .ok (.land, 1) := by decide +kernel
theorem dX3_reckon_90 : decode cX3_reckon 90 = .ok (.lreturn, 1) := by decide +kernel
theorem dX3_reckon_91 : decode cX3_reckon 91 = .ok (.iload_n 0, 1) := by decide +kernel
theorem dX3_reckon_92 : decode cX3_reckon 92 = .ok (.lload 6, 2) := by decide +kernel
theorem dX3_reckon_94 : decode cX3_reckon 94 = .ok (.lload 8, 2) := by decide +kernel
theorem dX3_reckon_96 : decode cX3_reckon 96 = .ok (.iconst 0, 1) := by decide +kernel
theorem dX3_reckon_97 : decode cX3_reckon 97 = .ok (.invokestatic 26, 3) := by decide +kernel
theorem dX3_reckon_100 : decode cX3_reckon 100 = .ok (.ldc2_w 22, 3) := by decide +kernel
theorem dX3_reckon_103 : decode cX3_reckon 103 = .ok (.land, 1) := by decide +kernel
theorem dX3_reckon_104 : decode cX3_reckon 104 = .ok (.lreturn, 1) := by decide +kernel
theorem dX3_reckon_105 : decode cX3_reckon 105 = .ok (.iload_n 0, 1) := by decide +kernel
theorem dX3_reckon_106 : decode cX3_reckon 106 = .ok (.tableswitch 147 0 11 #[62, 64, 68, 72, 76, 92, 108, 112, 116, 120, 129, 138], 62) := by decide +kernel
theorem dX3_reckon_168 : decode cX3_reckon 168 = .ok (.lload_n 3, 1) := by decide +kernel
theorem dX3_reckon_169 : decode cX3_reckon 169 = .ok (.lreturn, 1) := by decide +kernel
theorem dX3_reckon_170 : decode cX3_reckon 170 = .ok (.lload_n 1, 1) := by decide +kernel
theorem dX3_reckon_171 : decode cX3_reckon 171 = .ok (.lload_n 3, 1) := by decide +kernel
theorem dX3_reckon_172 : decode cX3_reckon 172 = .ok (.ladd, 1) := by decide +kernel
theorem dX3_reckon_173 : decode cX3_reckon 173 = .ok (.lreturn, 1) := by decide +kernel
theorem dX3_reckon_174 : decode cX3_reckon 174 = .ok (.lload_n 1, 1) := by decide +kernel
theorem dX3_reckon_175 : decode cX3_reckon 175 = .ok (.lload_n 3, 1) := by decide +kernel
theorem dX3_reckon_176 : decode cX3_reckon 176 = .ok (.lsub, 1) := by decide +kernel
theorem dX3_reckon_177 : decode cX3_reckon 177 = .ok (.lreturn, 1) := by decide +kernel
theorem dX3_reckon_178 : decode cX3_reckon 178 = .ok (.lload_n 1, 1) := by decide +kernel
theorem dX3_reckon_179 : decode cX3_reckon 179 = .ok (.lload_n 3, 1) := by decide +kernel
theorem dX3_reckon_180 : decode cX3_reckon 180 = .ok (.lmul, 1) := by decide +kernel
theorem dX3_reckon_181 : decode cX3_reckon 181 = .ok (.lreturn, 1) := by decide +kernel
theorem dX3_reckon_182 : decode cX3_reckon 182 = .ok (.lload_n 3, 1) := by decide +kernel
theorem dX3_reckon_183 : decode cX3_reckon 183 = .ok (.lconst 0, 1) := by decide +kernel
theorem dX3_reckon_184 : decode cX3_reckon 184 = .ok (.lcmp, 1) := by decide +kernel
theorem dX3_reckon_185 : decode cX3_reckon 185 = .ok (.ifCond .ne 7, 3) := by decide +kernel
theorem dX3_reckon_188 : decode cX3_reckon 188 = .ok (.lconst 0, 1) := by decide +kernel
theorem dX3_reckon_189 : decode cX3_reckon 189 = .ok (.goto 8, 3) := by decide +kernel
theorem dX3_reckon_192 : decode cX3_reckon 192 = .ok (.lload_n 1, 1) := by decide +kernel
theorem dX3_reckon_193 : decode cX3_reckon 193 = .ok (.lload_n 3, 1) := by decide +kernel
theorem dX3_reckon_194 : decode cX3_reckon 194 = .ok (.invokestatic 30, 3) := by decide +kernel
theorem dX3_reckon_197 : decode cX3_reckon 197 = .ok (.lreturn, 1) := by decide +kernel
theorem dX3_reckon_198 : decode cX3_reckon 198 = .ok (.lload_n 3, 1) := by decide +kernel
theorem dX3_reckon_199 : decode cX3_reckon 199 = .ok (.lconst 0, 1) := by decide +kernel
theorem dX3_reckon_200 : decode cX3_reckon 200 = .ok (.lcmp, 1) := by decide +kernel
theorem dX3_reckon_201 : decode cX3_reckon 201 = .ok (.ifCond .ne 7, 3) := by decide +kernel
theorem dX3_reckon_204 : decode cX3_reckon 204 = .ok (.lload_n 1, 1) := by decide +kernel
theorem dX3_reckon_205 : decode cX3_reckon 205 = .ok (.goto 8, 3) := by decide +kernel
theorem dX3_reckon_208 : decode cX3_reckon 208 = .ok (.lload_n 1, 1) := by decide +kernel
theorem dX3_reckon_209 : decode cX3_reckon 209 = .ok (.lload_n 3, 1) := by decide +kernel
theorem dX3_reckon_210 : decode cX3_reckon 210 = .ok (.invokestatic 34, 3) := by decide +kernel
theorem dX3_reckon_213 : decode cX3_reckon 213 = .ok (.lreturn, 1) := by decide +kernel
theorem dX3_reckon_214 : decode cX3_reckon 214 = .ok (.lload_n 1, 1) := by decide +kernel
theorem dX3_reckon_215 : decode cX3_reckon 215 = .ok (.lload_n 3, 1) := by decide +kernel
theorem dX3_reckon_216 : decode cX3_reckon 216 = .ok (.land, 1) := by decide +kernel
theorem dX3_reckon_217 : decode cX3_reckon 217 = .ok (.lreturn, 1) := by decide +kernel
theorem dX3_reckon_218 : decode cX3_reckon 218 = .ok (.lload_n 1, 1) := by decide +kernel
theorem dX3_reckon_219 : decode cX3_reckon 219 = .ok (.lload_n 3, 1) := by decide +kernel
theorem dX3_reckon_220 : decode cX3_reckon 220 = .ok (.lor, 1) := by decide +kernel
theorem dX3_reckon_221 : decode cX3_reckon 221 = .ok (.lreturn, 1) := by decide +kernel
theorem dX3_reckon_222 : decode cX3_reckon 222 = .ok (.lload_n 1, 1) := by decide +kernel
theorem dX3_reckon_223 : decode cX3_reckon 223 = .ok (.lload_n 3, 1) := by decide +kernel
theorem dX3_reckon_224 : decode cX3_reckon 224 = .ok (.lxor, 1) := by decide +kernel
theorem dX3_reckon_225 : decode cX3_reckon 225 = .ok (.lreturn, 1) := by decide +kernel
theorem dX3_reckon_226 : decode cX3_reckon 226 = .ok (.lload_n 1, 1) := by decide +kernel
theorem dX3_reckon_227 : decode cX3_reckon 227 = .ok (.lload_n 3, 1) := by decide +kernel
theorem dX3_reckon_228 : decode cX3_reckon 228 = .ok (.ldc2_w 37, 3) := by decide +kernel
theorem dX3_reckon_231 : decode cX3_reckon 231 = .ok (.land, 1) := by decide +kernel
theorem dX3_reckon_232 : decode cX3_reckon 232 = .ok (.l2i, 1) := by decide +kernel
theorem dX3_reckon_233 : decode cX3_reckon 233 = .ok (.lshl, 1) := by decide +kernel
theorem dX3_reckon_234 : decode cX3_reckon 234 = .ok (.lreturn, 1) := by decide +kernel
theorem dX3_reckon_235 : decode cX3_reckon 235 = .ok (.lload_n 1, 1) := by decide +kernel
theorem dX3_reckon_236 : decode cX3_reckon 236 = .ok (.lload_n 3, 1) := by decide +kernel
theorem dX3_reckon_237 : decode cX3_reckon 237 = .ok (.ldc2_w 37, 3) := by decide +kernel
theorem dX3_reckon_240 : decode cX3_reckon 240 = .ok (.land, 1) := by decide +kernel
theorem dX3_reckon_241 : decode cX3_reckon 241 = .ok (.l2i, 1) := by decide +kernel
theorem dX3_reckon_242 : decode cX3_reckon 242 = .ok (.lushr, 1) := by decide +kernel
theorem dX3_reckon_243 : decode cX3_reckon 243 = .ok (.lreturn, 1) := by decide +kernel
theorem dX3_reckon_244 : decode cX3_reckon 244 = .ok (.lload_n 1, 1) := by decide +kernel
theorem dX3_reckon_245 : decode cX3_reckon 245 = .ok (.lload_n 3, 1) := by decide +kernel
theorem dX3_reckon_246 : decode cX3_reckon 246 = .ok (.ldc2_w 37, 3) := by decide +kernel
theorem dX3_reckon_249 : decode cX3_reckon 249 = .ok (.land, 1) := by decide +kernel
theorem dX3_reckon_250 : decode cX3_reckon 250 = .ok (.l2i, 1) := by decide +kernel
theorem dX3_reckon_251 : decode cX3_reckon 251 = .ok (.lshr, 1) := by decide +kernel
theorem dX3_reckon_252 : decode cX3_reckon 252 = .ok (.lreturn, 1) := by decide +kernel
theorem dX3_reckon_253 : decode cX3_reckon 253 = .ok (.lload_n 1, 1) := by decide +kernel
theorem dX3_reckon_254 : decode cX3_reckon 254 = .ok (.lneg, 1) := by decide +kernel
theorem dX3_reckon_255 : decode cX3_reckon 255 = .ok (.lreturn, 1) := by decide +kernel
theorem dX3_all_0 : decode cX3_all 0 = .ok (.aload_n 0, 1) := by decide +kernel
theorem dX3_all_1 : decode cX3_all 1 = .ok (.ldc2_w 39, 3) := by decide +kernel
theorem dX3_all_4 : decode cX3_all 4 = .ok (.putfield 41, 3) := by decide +kernel
theorem dX3_all_7 : decode cX3_all 7 = .ok (.aload_n 0, 1) := by decide +kernel
theorem dX3_all_8 : decode cX3_all 8 = .ok (.ldc2_w 45, 3) := by decide +kernel
theorem dX3_all_11 : decode cX3_all 11 = .ok (.putfield 47, 3) := by decide +kernel
theorem dX3_all_14 : decode cX3_all 14 = .ok (.return_, 1) := by decide +kernel
theorem dX3_between_0 : decode cX3_between 0 = .ok (.aload_n 0, 1) := by decide +kernel
theorem dX3_between_1 : decode cX3_between 1 = .ok (.lload_n 1, 1) := by decide +kernel
theorem dX3_between_2 : decode cX3_between 2 = .ok (.putfield 41, 3) := by decide +kernel
theorem dX3_between_5 : decode cX3_between 5 = .ok (.aload_n 0, 1) := by decide +kernel
theorem dX3_between_6 : decode cX3_between 6 = .ok (.lload_n 3, 1) := by decide +kernel
theorem dX3_between_7 : decode cX3_between 7 = .ok (.putfield 47, 3) := by decide +kernel
theorem dX3_between_10 : decode cX3_between 10 = .ok (.return_, 1) := by decide +kernel
set_option maxRecDepth 20000 in
theorem ggX3_whole_J9_addExact_f86c9 : GoodIn wsX3_whole wsJ9_addExact_f86c9 := goodIn_r _ [5] (by decide +kernel) (by decide +kernel)
set_option maxRecDepth 20000 in
theorem gX3_whole_J9_addExact_f86c9 : GoodIn wsX3_whole (va_wsS RX3 50 yJ9_addExact_f86c9 wsJ9_addExact_f86c9) := goodIn_app (goodIn_of _ (by decide +kernel)) ggX3_whole_J9_addExact_f86c9
set_option maxRecDepth 20000 in
theorem ggX3_whole_J9_subtractExact_f86c9 : GoodIn wsX3_whole wsJ9_subtractExact_f86c9 := goodIn_r _ [8] (by decide +kernel) (by decide +kernel)
set_option maxRecDepth 20000 in
theorem gX3_whole_J9_subtractExact_f86c9 : GoodIn wsX3_whole (va_wsS RX3 55 yJ9_subtractExact_f86c9 wsJ9_subtractExact_f86c9) := goodIn_app (goodIn_of _ (by decide +kernel)) ggX3_whole_J9_subtractExact_f86c9
set_option maxRecDepth 20000 in
theorem ggX3_whole_J9_multiplyExact_f86c9 : GoodIn wsX3_whole wsJ9_multiplyExact_f86c9 := goodIn_r _ [11, 12, 13, 14, 15, 16, 17] (by decide +kernel) (by decide +kernel)
set_option maxRecDepth 20000 in
theorem gX3_whole_J9_multiplyExact_f86c9 : GoodIn wsX3_whole (va_wsS RX3 58 yJ9_multiplyExact_f86c9 wsJ9_multiplyExact_f86c9) := goodIn_app (goodIn_of _ (by decide +kernel)) ggX3_whole_J9_multiplyExact_f86c9
theorem dX3_whole_0 : decode cX3_whole 0 = .ok (.iload_n 1, 1) := by decide +kernel
theorem dX3_whole_1 : decode cX3_whole 1 = .ok (.iconst 1, 1) := by decide +kernel
theorem dX3_whole_2 : decode cX3_whole 2 = .ok (.if_icmp .ne 12, 3) := by decide +kernel
theorem dX3_whole_5 : decode cX3_whole 5 = .ok (.lload_n 2, 1) := by decide +kernel
theorem dX3_whole_6 : decode cX3_whole 6 = .ok (.lload 4, 2) := by decide +kernel
theorem dX3_whole_8 : decode cX3_whole 8 = .ok (.invokestatic 50, 3) := by decide +kernel
theorem dX3_whole_11 : decode cX3_whole 11 = .ok (.goto 23, 3) := by decide +kernel
theorem dX3_whole_14 : decode cX3_whole 14 = .ok (.iload_n 1, 1) := by decide +kernel
theorem dX3_whole_15 : decode cX3_whole 15 = .ok (.iconst 2, 1) := by decide +kernel
theorem dX3_whole_16 : decode cX3_whole 16 = .ok (.if_icmp .ne 12, 3) := by decide +kernel
theorem dX3_whole_19 : decode cX3_whole 19 = .ok (.lload_n 2, 1) := by decide +kernel
theorem dX3_whole_20 : decode cX3_whole 20 = .ok (.lload 4, 2) := by decide +kernel
theorem dX3_whole_22 : decode cX3_whole 22 = .ok (.invokestatic 55, 3) := by decide +kernel
theorem dX3_whole_25 : decode cX3_whole 25 = .ok (.goto 9, 3) := by decide +kernel
theorem dX3_whole_28 : decode cX3_whole 28 = .ok (.lload_n 2, 1) := by decide +kernel
theorem dX3_whole_29 : decode cX3_whole 29 = .ok (.lload 4, 2) := by decide +kernel
theorem dX3_whole_31 : decode cX3_whole 31 = .ok (.invokestatic 58, 3) := by decide +kernel
theorem dX3_whole_34 : decode cX3_whole 34 = .ok (.lreturn, 1) := by decide +kernel
theorem dX3_whole_35 : decode cX3_whole 35 = .ok (.astore 6, 2) := by decide +kernel
theorem dX3_whole_37 : decode cX3_whole 37 = .ok (.aload_n 0, 1) := by decide +kernel
theorem dX3_whole_38 : decode cX3_whole 38 = .ok (.iconst 0, 1) := by decide +kernel
theorem dX3_whole_39 : decode cX3_whole 39 = .ok (.putfield 63, 3) := by decide +kernel
theorem dX3_whole_42 : decode cX3_whole 42 = .ok (.lconst 0, 1) := by decide +kernel
theorem dX3_whole_43 : decode cX3_whole 43 = .ok (.lreturn, 1) := by decide +kernel
set_option maxRecDepth 20000 in
theorem ggX3_ends_X3_whole : GoodIn wsX3_ends wsX3_whole := goodIn_r _ [13, 1, 14, 15, 16, 17, 18, 19, 20, 21, 22, 23, 24, 25, 4, 26, 27, 28, 41, 42, 43, 44, 45, 46, 47, 48, 49, 50] (by decide +kernel) (by decide +kernel)
set_option maxRecDepth 20000 in
theorem gX3_ends_X3_whole : GoodIn wsX3_ends (wsV RX3 67 RX3 yX3_whole wsX3_whole) := goodIn_app (goodIn_of _ (by decide +kernel)) ggX3_ends_X3_whole
set_option maxRecDepth 20000 in
theorem ggX3_ends_X3_between : GoodIn wsX3_ends wsX3_between := goodIn_r _ [32, 33, 34, 41, 42, 43, 44, 45, 46, 47, 48, 49, 50] (by decide +kernel) (by decide +kernel)
set_option maxRecDepth 20000 in
theorem gX3_ends_X3_between : GoodIn wsX3_ends (wsV RX3 77 RX3 yX3_between wsX3_between) := goodIn_app (goodIn_of _ (by decide +kernel)) ggX3_ends_X3_between
set_option maxRecDepth 20000 in
theorem ggX3_ends_X3_all : GoodIn wsX3_ends wsX3_all := goodIn_r _ [38, 39, 33, 40, 34, 41, 42, 43, 44, 45, 46, 47, 48, 49, 50] (by decide +kernel) (by decide +kernel)
set_option maxRecDepth 20000 in
theorem gX3_ends_X3_all : GoodIn wsX3_ends (wsV RX3 81 RX3 yX3_all wsX3_all) := goodIn_app (goodIn_of _ (by decide +kernel)) ggX3_ends_X3_all
theorem dX3_ends_0 : decode cX3_ends 0 = .ok (.aload_n 0, 1) := by decide +kernel
theorem dX3_ends_1 : decode cX3_ends 1 = .ok (.iconst 1, 1) := by decide +kernel
theorem dX3_ends_2 : decode cX3_ends 2 = .ok (.putfield 63, 3) := by decide +kernel
theorem dX3_ends_5 : decode cX3_ends 5 = .ok (.aload_n 0, 1) := by decide +kernel
theorem dX3_ends_6 : decode cX3_ends 6 = .ok (.iload_n 1, 1) := by decide +kernel
theorem dX3_ends_7 : decode cX3_ends 7 = .ok (.lload_n 2, 1) := by decide +kernel
theorem dX3_ends_8 : decode cX3_ends 8 = .ok (.lload 6, 2) := by decide +kernel
theorem dX3_ends_10 : decode cX3_ends 10 = .ok (.invokevirtual 67, 3) := by decide +kernel
theorem dX3_ends_13 : decode cX3_ends 13 = .ok (.lstore 10, 2) := by decide +kernel
theorem dX3_ends_15 : decode cX3_ends 15 = .ok (.aload_n 0, 1) := by decide +kernel
theorem dX3_ends_16 : decode cX3_ends 16 = .ok (.iload_n 1, 1) := by decide +kernel
theorem dX3_ends_17 : decode cX3_ends 17 = .ok (.lload_n 2, 1) := by decide +kernel
theorem dX3_ends_18 : decode cX3_ends 18 = .ok (.lload 8, 2) := by decide +kernel
theorem dX3_ends_20 : decode cX3_ends 20 = .ok (.invokevirtual 67, 3) := by decide +kernel
theorem dX3_ends_23 : decode cX3_ends 23 = .ok (.lstore 12, 2) := by decide +kernel
theorem dX3_ends_25 : decode cX3_ends 25 = .ok (.aload_n 0, 1) := by decide +kernel
theorem dX3_ends_26 : decode cX3_ends 26 = .ok (.iload_n 1, 1) := by decide +kernel
theorem dX3_ends_27 : decode cX3_ends 27 = .ok (.lload 4, 2) := by decide +kernel
theorem dX3_ends_29 : decode cX3_ends 29 = .ok (.lload 6, 2) := by decide +kernel
theorem dX3_ends_31 : decode cX3_ends 31 = .ok (.invokevirtual 67, 3) := by decide +kernel
theorem dX3_ends_34 : decode cX3_ends 34 = .ok (.lstore 14, 2) := by decide +kernel
theorem dX3_ends_36 : decode cX3_ends 36 = .ok (.aload_n 0, 1) := by decide +kernel
theorem dX3_ends_37 : decode cX3_ends 37 = .ok (.iload_n 1, 1) := by decide +kernel
theorem dX3_ends_38 : decode cX3_ends 38 = .ok (.lload 4, 2) := by decide +kernel
theorem dX3_ends_40 : decode cX3_ends 40 = .ok (.lload 8, 2) := by decide +kernel
theorem dX3_ends_42 : decode cX3_ends 42 = .ok (.invokevirtual 67, 3) := by decide +kernel
theorem dX3_ends_45 : decode cX3_ends 45 = .ok (.lstore 16, 2) := by decide +kernel
theorem dX3_ends_47 : decode cX3_ends 47 = .ok (.aload_n 0, 1) := by decide +kernel
theorem dX3_ends_48 : decode cX3_ends 48 = .ok (.getfield 63, 3) := by decide +kernel
theorem dX3_ends_51 : decode cX3_ends 51 = .ok (.ifCond .eq 44, 3) := by decide +kernel
theorem dX3_ends_54 : decode cX3_ends 54 = .ok (.aload_n 0, 1) := by decide +kernel
theorem dX3_ends_55 : decode cX3_ends 55 = .ok (.lload 10, 2) := by decide +kernel
theorem dX3_ends_57 : decode cX3_ends 57 = .ok (.lload 12, 2) := by decide +kernel
theorem dX3_ends_59 : decode cX3_ends 59 = .ok (.invokestatic 71, 3) := by decide +kernel
theorem dX3_ends_62 : decode cX3_ends 62 = .ok (.lload 14, 2) := by decide +kernel
theorem dX3_ends_64 : decode cX3_ends 64 = .ok (.lload 16, 2) := by decide +kernel
theorem dX3_ends_66 : decode cX3_ends 66 = .ok (.invokestatic 71, 3) := by decide +kernel
theorem dX3_ends_69 : decode cX3_ends 69 = .ok (.invokestatic 71, 3) := by decide +kernel
theorem dX3_ends_72 : decode cX3_ends 72 = .ok (.lload 10, 2) := by decide +kernel
theorem dX3_ends_74 : decode cX3_ends 74 = .ok (.lload 12, 2) := by decide +kernel
theorem dX3_ends_76 : decode cX3_ends 76 = .ok (.invokestatic 74, 3) := by decide +kernel
theorem dX3_ends_79 : decode cX3_ends 79 = .ok (.lload 14, 2) := by decide +kernel
theorem dX3_ends_81 : decode cX3_ends 81 = .ok (.lload 16, 2) := by decide +kernel
theorem dX3_ends_83 : decode cX3_ends 83 = .ok (.invokestatic 74, 3) := by decide +kernel
theorem dX3_ends_86 : decode cX3_ends 86 = .ok (.invokestatic 74, 3) := by decide +kernel
theorem dX3_ends_89 : decode cX3_ends 89 = .ok (.invokevirtual 77, 3) := by decide +kernel
theorem dX3_ends_92 : decode cX3_ends 92 = .ok (.goto 7, 3) := by decide +kernel
theorem dX3_ends_95 : decode cX3_ends 95 = .ok (.aload_n 0, 1) := by decide +kernel
theorem dX3_ends_96 : decode cX3_ends 96 = .ok (.invokevirtual 81, 3) := by decide +kernel
theorem dX3_ends_99 : decode cX3_ends 99 = .ok (.return_, 1) := by decide +kernel
set_option maxRecDepth 20000 in
theorem ggX3_range_X3_between : GoodIn wsX3_range wsX3_between := goodIn_r _ [13, 14, 15, 55, 56, 57, 58, 59, 60, 61, 62, 63, 64] (by decide +kernel) (by decide +kernel)
set_option maxRecDepth 20000 in
theorem gX3_range_X3_between : GoodIn wsX3_range (wsV RX3 77 RX3 yX3_between wsX3_between) := goodIn_app (goodIn_of _ (by decide +kernel)) ggX3_range_X3_between
set_option maxRecDepth 20000 in
theorem ggX3_range_X3_ends : GoodIn wsX3_range wsX3_ends := goodIn_r _ [19, 20, 1, 2, 3, 4, 5, 6, 7, 21, 22, 23, 12, 24, 25, 26, 27, 28, 29, 30, 31, 32, 33, 34, 35, 36, 37, 38, 39, 9, 10, 11, 13, 14, 15, 40, 41, 42, 43, 44, 45, 55, 56, 57, 58, 59, 60, 61, 62, 63, 64] (by decide +kernel) (by decide +kernel)
set_option maxRecDepth 20000 in
theorem gX3_range_X3_ends : GoodIn wsX3_range (wsV RX3 84 RX3 yX3_ends wsX3_ends) := goodIn_app (goodIn_of _ (by decide +kernel)) ggX3_range_X3_ends
set_option maxRecDepth 20000 in
theorem ggX3_range_X3_all : GoodIn wsX3_range wsX3_all := goodIn_r _ [43, 44, 14, 45, 15, 55, 56, 57, 58, 59, 60, 61, 62, 63, 64] (by decide +kernel) (by decide +kernel)
set_option maxRecDepth 20000 in
theorem gX3_range_X3_all : GoodIn wsX3_range (wsV RX3 81 RX3 yX3_all wsX3_all) := goodIn_app (goodIn_of _ (by decide +kernel)) ggX3_range_X3_all
set_option maxRecDepth 20000 in
theorem ggX3_range_J13_numberOfLeadingZeros_95d88 : GoodIn wsX3_range wsJ13_numberOfLeadingZeros_95d88 := goodIn_r _ [49, 50, 51, 52, 53, 54] (by decide +kernel) (by decide +kernel)
set_option maxRecDepth 20000 in
theorem gX3_range_J13_numberOfLeadingZeros_95d88 : GoodIn wsX3_range (va_wsS RX3 90 yJ13_numberOfLeadingZeros_95d88 wsJ13_numberOfLeadingZeros_95d88) := goodIn_app (goodIn_of _ (by decide +kernel)) ggX3_range_J13_numberOfLeadingZeros_95d88
theorem dX3_range_0 : decode cX3_range 0 = .ok (.lload_n 2, 1) := by decide +kernel
theorem dX3_range_1 : decode cX3_range 1 = .ok (.lconst 0, 1) := by decide +kernel
theorem dX3_range_2 : decode cX3_range 2 = .ok (.lcmp, 1) := by decide +kernel
theorem dX3_range_3 : decode cX3_range 3 = .ok (.ifCond .lt 7, 3) := by decide +kernel
theorem dX3_range_6 : decode cX3_range 6 = .ok (.iconst 1, 1) := by decide +kernel
theorem dX3_range_7 : decode cX3_range 7 = .ok (.goto 4, 3) := by decide +kernel
theorem dX3_range_10 : decode cX3_range 10 = .ok (.iconst 0, 1) := by decide +kernel
theorem dX3_range_11 : decode cX3_range 11 = .ok (.istore 11, 2) := by decide +kernel
theorem dX3_range_13 : decode cX3_range 13 = .ok (.lload 6, 2) := by decide +kernel
theorem dX3_range_15 : decode cX3_range 15 = .ok (.lconst 0, 1) := by decide +kernel
theorem dX3_range_16 : decode cX3_range 16 = .ok (.lcmp, 1) := by decide +kernel
theorem dX3_range_17 : decode cX3_range 17 = .ok (.ifCond .lt 7, 3) := by decide +kernel
theorem dX3_range_20 : decode cX3_range 20 = .ok (.iconst 1, 1) := by decide +kernel
theorem dX3_range_21 : decode cX3_range 21 = .ok (.goto 4, 3) := by decide +kernel
theorem dX3_range_24 : decode cX3_range 24 = .ok (.iconst 0, 1) := by decide +kernel
theorem dX3_range_25 : decode cX3_range 25 = .ok (.istore 12, 2) := by decide +kernel
theorem dX3_range_27 : decode cX3_range 27 = .ok (.lload 6, 2) := by decide +kernel
theorem dX3_range_29 : decode cX3_range 29 = .ok (.lload 8, 2) := by decide +kernel
theorem dX3_range_31 : decode cX3_range 31 = .ok (.lcmp, 1) := by decide +kernel
theorem dX3_range_32 : decode cX3_range 32 = .ok (.ifCond .ne 7, 3) := by decide +kernel
theorem dX3_range_35 : decode cX3_range 35 = .ok (.iconst 1, 1) := by decide +kernel
theorem dX3_range_36 : decode cX3_range 36 = .ok (.goto 4, 3) := by decide +kernel
theorem dX3_range_39 : decode cX3_range 39 = .ok (.iconst 0, 1) := by decide +kernel
theorem dX3_range_40 : decode cX3_range 40 = .ok (.istore 13, 2) := by decide +kernel
theorem dX3_range_42 : decode cX3_range 42 = .ok (.lload 6, 2) := by decide +kernel
theorem dX3_range_44 : decode cX3_range 44 = .ok (.l2i, 1) := by decide +kernel
theorem dX3_range_45 : decode cX3_range 45 = .ok (.iload 10, 2) := by decide +kernel
theorem dX3_range_47 : decode cX3_range 47 = .ok (.iand, 1) := by decide +kernel
theorem dX3_range_48 : decode cX3_range 48 = .ok (.istore 14, 2) := by decide +kernel
theorem dX3_range_50 : decode cX3_range 50 = .ok (.iload_n 1, 1) := by decide +kernel
theorem dX3_range_51 : decode cX3_range 51 = .ok (.tableswitch 483 0 11 #[61, 70, 70, 70, 83, 136, 190, 245, 245, 312, 367, 442], 61) := by decide +kernel
theorem dX3_range_112 : decode cX3_range 112 = .ok (.aload_n 0, 1) := by decide +kernel
theorem dX3_range_113 : decode cX3_range 113 = .ok (.lload 6, 2) := by decide +kernel
theorem dX3_range_115 : decode cX3_range 115 = .ok (.lload 8, 2) := by decide +kernel
theorem dX3_range_117 : decode cX3_range 117 = .ok (.invokevirtual 77, 3) := by decide +kernel
theorem dX3_range_120 : decode cX3_range 120 = .ok (.return_, 1) := by decide +kernel
theorem dX3_range_121 : decode cX3_range 121 = .ok (.aload_n 0, 1) := by decide +kernel
theorem dX3_range_122 : decode cX3_range 122 = .ok (.iload_n 1, 1) := by decide +kernel
theorem dX3_range_123 : decode cX3_range 123 = .ok (.lload_n 2, 1) := by decide +kernel
theorem dX3_range_124 : decode cX3_range 124 = .ok (.lload 4, 2) := by decide +kernel
theorem dX3_range_126 : decode cX3_range 126 = .ok (.lload 6, 2) := by decide +kernel
theorem dX3_range_128 : decode cX3_range 128 = .ok (.lload 8, 2) := by decide +kernel
theorem dX3_range_130 : decode cX3_range 130 = .ok (.invokevirtual 84, 3) := by decide +kernel
theorem dX3_range_133 : decode cX3_range 133 = .ok (.return_, 1) := by decide +kernel
theorem dX3_range_134 : decode cX3_range 134 = .ok (.lload 6, 2) := by decide +kernel
theorem dX3_range_136 : decode cX3_range 136 = .ok (.lconst 0, 1) := by decide +kernel
theorem dX3_range_137 : decode cX3_range 137 = .ok (.lcmp, 1) := by decide +kernel
theorem dX3_range_138 : decode cX3_range 138 = .ok (.ifCond .le 24, 3) := by decide +kernel
theorem dX3_range_141 : decode cX3_range 141 = .ok (.iload 11, 2) := by decide +kernel
theorem dX3_range_143 : decode cX3_range 143 = .ok (.ifCond .eq 19, 3) := by decide +kernel
theorem dX3_range_146 : decode cX3_range 146 = .ok (.aload_n 0, 1) := by decide +kernel
theorem dX3_range_147 : decode cX3_range 147 = .ok (.lload_n 2, 1) := by decide +kernel
theorem dX3_range_148 : decode cX3_range 148 = .ok (.lload 8, 2) := by decide +kernel
theorem dX3_range_150 : decode cX3_range 150 = .ok (.ldiv, 1) := by decide +kernel
theorem dX3_range_151 : decode cX3_range 151 = .ok (.lload 4, 2) := by decide +kernel
theorem dX3_range_153 : decode cX3_range 153 = .ok (.lload 6, 2) := by decide +kernel
theorem dX3_range_155 : decode cX3_range 155 = .ok (.ldiv, 1) := by decide +kernel
theorem dX3_range_156 : decode cX3_range 156 = .ok (.invokevirtual 77, 3) := by decide +kernel
theorem dX3_range_159 : decode cX3_range 159 = .ok (.goto 27, 3) := by decide +kernel
theorem dX3_range_162 : decode cX3_range 162 = .ok (.iload 11, 2) := by decide +kernel
theorem dX3_range_164 : decode cX3_range 164 = .ok (.ifCond .eq 18, 3) := by decide +kernel
theorem dX3_range_167 : decode cX3_range 167 = .ok (.iload 12, 2) := by decide +kernel
theorem dX3_range_169 : decode cX3_range 169 = .ok (.ifCond .eq 13, 3) := by decide +kernel
theorem dX3_range_172 : decode cX3_range 172 = .ok (.aload_n 0, 1) := by decide +kernel
theorem dX3_range_173 : decode cX3_range 173 = .ok (.lconst 0, 1) := by decide +kernel
theorem dX3_range_174 : decode cX3_range 174 = .ok (.lload 4, 2) := by decide +kernel
theorem dX3_range_176 : decode cX3_range 176 = .ok (.invokevirtual 77, 3) := by decide +kernel
theorem dX3_range_179 : decode cX3_range 179 = .ok (.goto 7, 3) := by decide +kernel
theorem dX3_range_182 : decode cX3_range 182 = .ok (.aload_n 0, 1) := by decide +kernel
theorem dX3_range_183 : decode cX3_range 183 = .ok (.invokevirtual 81, 3) := by decide +kernel
theorem dX3_range_186 : decode cX3_range 186 = .ok (.return_, 1) := by decide +kernel
theorem dX3_range_187 : decode cX3_range 187 = .ok (.lload 6, 2) := by decide +kernel
theorem dX3_range_189 : decode cX3_range 189 = .ok (.lconst 0, 1) := by decide +kernel
theorem dX3_range_190 : decode cX3_range 190 = .ok (.lcmp, 1) := by decide +kernel
theorem dX3_range_191 : decode cX3_range 191 = .ok (.ifCond .le 25, 3) := by decide +kernel
theorem dX3_range_194 : decode cX3_range 194 = .ok (.iload 11, 2) := by decide +kernel
theorem dX3_range_196 : decode cX3_range 196 = .ok (.ifCond .eq 20, 3) := by decide +kernel
theorem dX3_range_199 : decode cX3_range 199 = .ok (.aload_n 0, 1) := by decide +kernel
theorem dX3_range_200 : decode cX3_range 200 = .ok (.lconst 0, 1) := by decide +kernel
theorem dX3_range_201 : decode cX3_range 201 = .ok (.lload 4, 2) := by decide +kernel
theorem dX3_range_203 : decode cX3_range 203 = .ok (.lload 8, 2) := by decide +kernel
theorem dX3_range_205 : decode cX3_range 205 = .ok (.lconst 1, 1) := by decide +kernel
theorem dX3_range_206 : decode cX3_range 206 = .ok (.lsub, 1) := by decide +kernel
theorem dX3_range_207 : decode cX3_range 207 = .ok (.invokestatic 71, 3) := by decide +kernel
theorem dX3_range_210 : decode cX3_range 210 = .ok (.invokevirtual 77, 3) := by decide +kernel
theorem dX3_range_213 : decode cX3_range 213 = .ok (.goto 27, 3) := by decide +kernel
theorem dX3_range_216 : decode cX3_range 216 = .ok (.iload 11, 2) := by decide +kernel
theorem dX3_range_218 : decode cX3_range 218 = .ok (.ifCond .eq 18, 3) := by decide +kernel
theorem dX3_range_221 : decode cX3_range 221 = .ok (.iload 12, 2) := by decide +kernel
theorem dX3_range_223 : decode cX3_range 223 = .ok (.ifCond .eq 13, 3) := by decide +kernel
theorem dX3_range_226 : decode cX3_range 226 = .ok (.aload_n 0, 1) := by decide +kernel
theorem dX3_range_227 : decode cX3_range 227 = .ok (.lconst 0, 1) := by decide +kernel
theorem dX3_range_228 : decode cX3_range 228 = .ok (.lload 4, 2) := by decide +kernel
theorem dX3_range_230 : decode cX3_range 230 = .ok (.invokevirtual 77, 3) := by decide +kernel
theorem dX3_range_233 : decode cX3_range 233 = .ok (.goto 7, 3) := by decide +kernel
theorem dX3_range_236 : decode cX3_range 236 = .ok (.aload_n 0, 1) := by decide +kernel
theorem dX3_range_237 : decode cX3_range 237 = .ok (.invokevirtual 81, 3) := by decide +kernel
theorem dX3_range_240 : decode cX3_range 240 = .ok (.return_, 1) := by decide +kernel
theorem dX3_range_241 : decode cX3_range 241 = .ok (.iload 11, 2) := by decide +kernel
theorem dX3_range_243 : decode cX3_range 243 = .ok (.ifCond .ne 8, 3) := by decide +kernel
theorem dX3_range_246 : decode cX3_range 246 = .ok (.iload 12, 2) := by decide +kernel
theorem dX3_range_248 : decode cX3_range 248 = .ok (.ifCond .eq 43, 3) := by decide +kernel
theorem dX3_range_251 : decode cX3_range 251 = .ok (.aload_n 0, 1) := by decide +kernel
theorem dX3_range_252 : decode cX3_range 252 = .ok (.lconst 0, 1) := by decide +kernel
theorem dX3_range_253 : decode cX3_range 253 = .ok (.iload 11, 2) := by decide +kernel
theorem dX3_range_255 : decode cX3_range 255 = .ok (.ifCond .eq 18, 3) := by decide +kernel
theorem dX3_range_258 : decode cX3_range 258 = .ok (.iload 12, 2) := by decide +kernel
theorem dX3_range_260 : decode cX3_range 260 = .ok (.ifCond .eq 13, 3) := by decide +kernel
theorem dX3_range_263 : decode cX3_range 263 = .ok (.lload 4, 2) := by decide +kernel
theorem dX3_range_265 : decode cX3_range 265 = .ok (.lload 8, 2) := by decide +kernel
theorem dX3_range_267 : decode cX3_range 267 = .ok (.invokestatic 71, 3) := by decide +kernel
theorem dX3_range_270 : decode cX3_range 270 = .ok (.goto 15, 3) := by decide +kernel
theorem dX3_range_273 : decode cX3_range 273 = .ok (.iload 11, 2) := by decide +kernel
theorem dX3_range_275 : decode cX3_range 275 = .ok (.ifCond .eq 8, 3) := by decide +kernel
theorem dX3_range_278 : decode cX3_range 278 = .ok (.lload 4, 2) := by decide +kernel
theorem dX3_range_280 : decode cX3_range 280 = .ok (.goto 5, 3) := by decide +kernel
theorem dX3_range_283 : decode cX3_range 283 = .ok (.lload 8, 2) := by decide +kernel
theorem dX3_range_285 : decode cX3_range 285 = .ok (.invokevirtual 77, 3) := by decide +kernel
theorem dX3_range_288 : decode cX3_range 288 = .ok (.goto 7, 3) := by decide +kernel
theorem dX3_range_291 : decode cX3_range 291 = .ok (.aload_n 0, 1) := by decide +kernel
theorem dX3_range_292 : decode cX3_range 292 = .ok (.invokevirtual 81, 3) := by decide +kernel
theorem dX3_range_295 : decode cX3_range 295 = .ok (.return_, 1) := by decide +kernel
theorem dX3_range_296 : decode cX3_range 296 = .ok (.iload 11, 2) := by decide +kernel
theorem dX3_range_298 : decode cX3_range 298 = .ok (.ifCond .eq 60, 3) := by decide +kernel
theorem dX3_range_301 : decode cX3_range 301 = .ok (.iload 12, 2) := by decide +kernel
theorem dX3_range_303 : decode cX3_range 303 = .ok (.ifCond .eq 55, 3) := by decide +kernel
theorem dX3_range_306 : decode cX3_range 306 = .ok (.lload 4, 2) := by decide +kernel
theorem dX3_range_308 : decode cX3_range 308 = .ok (.lload 8, 2) := by decide +kernel
theorem dX3_range_310 : decode cX3_range 310 = .ok (.invokestatic 74, 3) := by decide +kernel
theorem dX3_range_313 : decode cX3_range 313 = .ok (.lstore 15, 2) := by decide +kernel
theorem dX3_range_315 : decode cX3_range 315 = .ok (.aload_n 0, 1) := by decide +kernel
theorem dX3_range_316 : decode cX3_range 316 = .ok (.iload_n 1, 1) := by decide +kernel
theorem dX3_range_317 : decode cX3_range 317 = .ok (.bipush 7, 2) := by decide +kernel
theorem dX3_range_319 : decode cX3_range 319 = .ok (.if_icmp .ne 12, 3) := by decide +kernel
theorem dX3_range_322 : decode cX3_range 322 = .ok (.lload_n 2, 1) := by decide +kernel
theorem dX3_range_323 : decode cX3_range 323 = .ok (.lload 6, 2) := by decide +kernel
theorem dX3_range_325 : decode cX3_range 325 = .ok (.invokestatic 74, 3) := by decide +kernel
theorem dX3_range_328 : decode cX3_range 328 = .ok (.goto 4, 3) := by decide +kernel
theorem dX3_range_331 : decode cX3_range 331 = .ok (.lconst 0, 1) := by decide +kernel
theorem dX3_range_332 : decode cX3_range 332 = .ok (.lload 15, 2) := by decide +kernel
theorem dX3_range_334 : decode cX3_range 334 = .ok (.lconst 0, 1) := by decide +kernel
theorem dX3_range_335 : decode cX3_range 335 = .ok (.lcmp, 1) := by decide +kernel
theorem dX3_range_336 : decode cX3_range 336 = .ok (.ifCond .ne 7, 3) := by decide +kernel
theorem dX3_range_339 : decode cX3_range 339 = .ok (.lconst 0, 1) := by decide +kernel
theorem dX3_range_340 : decode cX3_range 340 = .ok (.goto 12, 3) := by decide +kernel
theorem dX3_range_343 : decode cX3_range 343 = .ok (.ldc2_w 88, 3) := by decide +kernel
theorem dX3_range_346 : decode cX3_range 346 = .ok (.lload 15, 2) := by decide +kernel
theorem dX3_range_348 : decode cX3_range 348 = .ok (.invokestatic 90, 3) := by decide +kernel
theorem dX3_range_351 : decode cX3_range 351 = .ok (.lushr, 1) := by decide +kernel
theorem dX3_range_352 : decode cX3_range 352 = .ok (.invokevirtual 77, 3) := by decide +kernel
theorem dX3_range_355 : decode cX3_range 355 = .ok (.goto 7, 3) := by decide +kernel
theorem dX3_range_358 : decode cX3_range 358 = .ok (.aload_n 0, 1) := by decide +kernel
theorem dX3_range_359 : decode cX3_range 359 = .ok (.invokevirtual 81, 3) := by decide +kernel
theorem dX3_range_362 : decode cX3_range 362 = .ok (.return_, 1) := by decide +kernel
theorem dX3_range_363 : decode cX3_range 363 = .ok (.iload 13, 2) := by decide +kernel
theorem dX3_range_365 : decode cX3_range 365 = .ok (.ifCond .eq 48, 3) := by decide +kernel
theorem dX3_range_368 : decode cX3_range 368 = .ok (.iload 11, 2) := by decide +kernel
theorem dX3_range_370 : decode cX3_range 370 = .ok (.ifCond .eq 43, 3) := by decide +kernel
theorem dX3_range_373 : decode cX3_range 373 = .ok (.lload 4, 2) := by decide +kernel
theorem dX3_range_375 : decode cX3_range 375 = .ok (.iload 14, 2) := by decide +kernel
theorem dX3_range_377 : decode cX3_range 377 = .ok (.lshl, 1) := by decide +kernel
theorem dX3_range_378 : decode cX3_range 378 = .ok (.lconst 0, 1) := by decide +kernel
theorem dX3_range_379 : decode cX3_range 379 = .ok (.lcmp, 1) := by decide +kernel
theorem dX3_range_380 : decode cX3_range 380 = .ok (.ifCond .lt 33, 3) := by decide +kernel
theorem dX3_range_383 : decode cX3_range 383 = .ok (.lload 4, 2) := by decide +kernel
theorem dX3_range_385 : decode cX3_range 385 = .ok (.iload 14, 2) := by decide +kernel
theorem dX3_range_387 : decode cX3_range 387 = .ok (.lshl, 1) := by decide +kernel
theorem dX3_range_388 : decode cX3_range 388 = .ok (.iload 14, 2) := by decide +kernel
theorem dX3_range_390 : decode cX3_range 390 = .ok (.lshr, 1) := by decide +kernel
theorem dX3_range_391 : decode cX3_range 391 = .ok (.lload 4, 2) := by decide +kernel
theorem dX3_range_393 : decode cX3_range 393 = .ok (.lcmp, 1) := by decide +kernel
theorem dX3_range_394 : decode cX3_range 394 = .ok (.ifCond .ne 19, 3) := by decide +kernel
theorem dX3_range_397 : decode cX3_range 397 = .ok (.aload_n 0, 1) := by decide +kernel
theorem dX3_range_398 : decode cX3_range 398 = .ok (.lload_n 2, 1) := by decide +kernel
theorem dX3_range_399 : decode cX3_range 399 = .ok (.iload 14, 2) := by decide +kernel
theorem dX3_range_401 : decode cX3_range 401 = .ok (.lshl, 1) := by decide +kernel
theorem dX3_range_402 : decode cX3_range 402 = .ok (.lload 4, 2) := by decide +kernel
theorem dX3_range_404 : decode cX3_range 404 = .ok (.iload 14, 2) := by decide +kernel
theorem dX3_range_406 : decode cX3_range 406 = .ok (.lshl, 1) := by decide +kernel
theorem dX3_range_407 : decode cX3_range 407 = .ok (.invokevirtual 77, 3) := by decide +kernel
theorem dX3_range_410 : decode cX3_range 410 = .ok (.goto 7, 3) := by decide +kernel
theorem dX3_range_413 : decode cX3_range 413 = .ok (.aload_n 0, 1) := by decide +kernel
theorem dX3_range_414 : decode cX3_range 414 = .ok (.invokevirtual 81, 3) := by decide +kernel
theorem dX3_range_417 : decode cX3_range 417 = .ok (.return_, 1) := by decide +kernel
theorem dX3_range_418 : decode cX3_range 418 = .ok (.iload 13, 2) := by decide +kernel
theorem dX3_range_420 : decode cX3_range 420 = .ok (.ifCond .eq 53, 3) := by decide +kernel
theorem dX3_range_423 : decode cX3_range 423 = .ok (.iload 11, 2) := by decide +kernel
theorem dX3_range_425 : decode cX3_range 425 = .ok (.ifCond .eq 19, 3) := by decide +kernel
theorem dX3_range_428 : decode cX3_range 428 = .ok (.aload_n 0, 1) := by decide +kernel
theorem dX3_range_429 : decode cX3_range 429 = .ok (.lload_n 2, 1) := by decide +kernel
theorem dX3_range_430 : decode cX3_range 430 = .ok (.iload 14, 2) := by decide +kernel
theorem dX3_range_432 : decode cX3_range 432 = .ok (.lshr, 1) := by decide +kernel
theorem dX3_range_433 : decode cX3_range 433 = .ok (.lload 4, 2) := by decide +kernel
theorem dX3_range_435 : decode cX3_range 435 = .ok (.iload 14, 2) := by decide +kernel
theorem dX3_range_437 : decode cX3_range 437 = .ok (.lshr, 1) := by decide +kernel
theorem dX3_range_438 : decode cX3_range 438 = .ok (.invokevirtual 77, 3) := by decide +kernel
theorem dX3_range_441 : decode cX3_range 441 = .ok (.goto 51, 3) := by decide +kernel
theorem dX3_range_444 : decode cX3_range 444 = .ok (.iload 14, 2) := by decide +kernel
theorem dX3_range_446 : decode cX3_range 446 = .ok (.ifCond .ne 13, 3) := by decide +kernel
theorem dX3_range_449 : decode cX3_range 449 = .ok (.aload_n 0, 1) := by decide +kernel
theorem dX3_range_450 : decode cX3_range 450 = .ok (.lload_n 2, 1) := by decide +kernel
theorem dX3_range_451 : decode cX3_range 451 = .ok (.lload 4, 2) := by decide +kernel
theorem dX3_range_453 : decode cX3_range 453 = .ok (.invokevirtual 77, 3) := by decide +kernel
theorem dX3_range_456 : decode cX3_range 456 = .ok (.goto 36, 3) := by decide +kernel
theorem dX3_range_459 : decode cX3_range 459 = .ok (.aload_n 0, 1) := by decide +kernel
theorem dX3_range_460 : decode cX3_range 460 = .ok (.lconst 0, 1) := by decide +kernel
theorem dX3_range_461 : decode cX3_range 461 = .ok (.ldc2_w 88, 3) := by decide +kernel
theorem dX3_range_464 : decode cX3_range 464 = .ok (.iload 14, 2) := by decide +kernel
theorem dX3_range_466 : decode cX3_range 466 = .ok (.lushr, 1) := by decide +kernel
theorem dX3_range_467 : decode cX3_range 467 = .ok (.invokevirtual 77, 3) := by decide +kernel
theorem dX3_range_470 : decode cX3_range 470 = .ok (.goto 22, 3) := by decide +kernel
theorem dX3_range_473 : decode cX3_range 473 = .ok (.iload 11, 2) := by decide +kernel
theorem dX3_range_475 : decode cX3_range 475 = .ok (.ifCond .eq 13, 3) := by decide +kernel
theorem dX3_range_478 : decode cX3_range 478 = .ok (.aload_n 0, 1) := by decide +kernel
theorem dX3_range_479 : decode cX3_range 479 = .ok (.lconst 0, 1) := by decide +kernel
theorem dX3_range_480 : decode cX3_range 480 = .ok (.lload 4, 2) := by decide +kernel
theorem dX3_range_482 : decode cX3_range 482 = .ok (.invokevirtual 77, 3) := by decide +kernel
theorem dX3_range_485 : decode cX3_range 485 = .ok (.goto 7, 3) := by decide +kernel
theorem dX3_range_488 : decode cX3_range 488 = .ok (.aload_n 0, 1) := by decide +kernel
theorem dX3_range_489 : decode cX3_range 489 = .ok (.invokevirtual 81, 3) := by decide +kernel
theorem dX3_range_492 : decode cX3_range 492 = .ok (.return_, 1) := by decide +kernel
theorem dX3_range_493 : decode cX3_range 493 = .ok (.iload 13, 2) := by decide +kernel
theorem dX3_range_495 : decode cX3_range 495 = .ok (.ifCond .eq 19, 3) := by decide +kernel
theorem dX3_range_498 : decode cX3_range 498 = .ok (.aload_n 0, 1) := by decide +kernel
theorem dX3_range_499 : decode cX3_range 499 = .ok (.lload_n 2, 1) := by decide +kernel
theorem dX3_range_500 : decode cX3_range 500 = .ok (.iload 14, 2) := by decide +kernel
theorem dX3_range_502 : decode cX3_range 502 = .ok (.lshr, 1) := by decide +kernel
theorem dX3_range_503 : decode cX3_range 503 = .ok (.lload 4, 2) := by decide +kernel
theorem dX3_range_505 : decode cX3_range 505 = .ok (.iload 14, 2) := by decide +kernel
theorem dX3_range_507 : decode cX3_range 507 = .ok (.lshr, 1) := by decide +kernel
theorem dX3_range_508 : decode cX3_range 508 = .ok (.invokevirtual 77, 3) := by decide +kernel
theorem dX3_range_511 : decode cX3_range 511 = .ok (.goto 22, 3) := by decide +kernel
theorem dX3_range_514 : decode cX3_range 514 = .ok (.iload 11, 2) := by decide +kernel
theorem dX3_range_516 : decode cX3_range 516 = .ok (.ifCond .eq 13, 3) := by decide +kernel
theorem dX3_range_519 : decode cX3_range 519 = .ok (.aload_n 0, 1) := by decide +kernel
theorem dX3_range_520 : decode cX3_range 520 = .ok (.lconst 0, 1) := by decide +kernel
theorem dX3_range_521 : decode cX3_range 521 = .ok (.lload 4, 2) := by decide +kernel
theorem dX3_range_523 : decode cX3_range 523 = .ok (.invokevirtual 77, 3) := by decide +kernel
theorem dX3_range_526 : decode cX3_range 526 = .ok (.goto 7, 3) := by decide +kernel
theorem dX3_range_529 : decode cX3_range 529 = .ok (.aload_n 0, 1) := by decide +kernel
theorem dX3_range_530 : decode cX3_range 530 = .ok (.invokevirtual 81, 3) := by decide +kernel
theorem dX3_range_533 : decode cX3_range 533 = .ok (.return_, 1) := by decide +kernel
theorem dX3_range_534 : decode cX3_range 534 = .ok (.aload_n 0, 1) := by decide +kernel
theorem dX3_range_535 : decode cX3_range 535 = .ok (.iconst 2, 1) := by decide +kernel
theorem dX3_range_536 : decode cX3_range 536 = .ok (.lconst 0, 1) := by decide +kernel
theorem dX3_range_537 : decode cX3_range 537 = .ok (.lconst 0, 1) := by decide +kernel
theorem dX3_range_538 : decode cX3_range 538 = .ok (.lload_n 2, 1) := by decide +kernel
theorem dX3_range_539 : decode cX3_range 539 = .ok (.lload 4, 2) := by decide +kernel
theorem dX3_range_541 : decode cX3_range 541 = .ok (.invokevirtual 84, 3) := by decide +kernel
theorem dX3_range_544 : decode cX3_range 544 = .ok (.return_, 1) := by decide +kernel
set_option maxRecDepth 20000 in
theorem ggX3_word_X3_between : GoodIn wsX3_word wsX3_between := goodIn_r _ [6, 7, 8, 9, 10, 11, 12, 13, 14, 15, 16, 17, 18] (by decide +kernel) (by decide +kernel)
set_option maxRecDepth 20000 in
theorem gX3_word_X3_between : GoodIn wsX3_word (wsV RX3 77 RX3 yX3_between wsX3_between) := goodIn_app (goodIn_of _ (by decide +kernel)) ggX3_word_X3_between
theorem dX3_word_0 : decode cX3_word 0 = .ok (.lload_n 1, 1) := by decide +kernel
theorem dX3_word_1 : decode cX3_word 1 = .ok (.lconst 0, 1) := by decide +kernel
theorem dX3_word_2 : decode cX3_word 2 = .ok (.lcmp, 1) := by decide +kernel
theorem dX3_word_3 : decode cX3_word 3 = .ok (.ifCond .lt 20, 3) := by decide +kernel
theorem dX3_word_6 : decode cX3_word 6 = .ok (.lload_n 3, 1) := by decide +kernel
theorem dX3_word_7 : decode cX3_word 7 = .ok (.ldc2_w 22, 3) := by decide +kernel
theorem dX3_word_10 : decode cX3_word 10 = .ok (.lcmp, 1) := by decide +kernel
theorem dX3_word_11 : decode cX3_word 11 = .ok (.ifCond .gt 12, 3) := by decide +kernel
theorem dX3_word_14 : decode cX3_word 14 = .ok (.aload_n 0, 1) := by decide +kernel
theorem dX3_word_15 : decode cX3_word 15 = .ok (.lload_n 1, 1) := by decide +kernel
theorem dX3_word_16 : decode cX3_word 16 = .ok (.lload_n 3, 1) := by decide +kernel
theorem dX3_word_17 : decode cX3_word 17 = .ok (.invokevirtual 77, 3) := by decide +kernel
theorem dX3_word_20 : decode cX3_word 20 = .ok (.goto 34, 3) := by decide +kernel
theorem dX3_word_23 : decode cX3_word 23 = .ok (.lload_n 1, 1) := by decide +kernel
theorem dX3_word_24 : decode cX3_word 24 = .ok (.lload_n 3, 1) := by decide +kernel
theorem dX3_word_25 : decode cX3_word 25 = .ok (.lcmp, 1) := by decide +kernel
theorem dX3_word_26 : decode cX3_word 26 = .ok (.ifCond .ne 20, 3) := by decide +kernel
theorem dX3_word_29 : decode cX3_word 29 = .ok (.aload_n 0, 1) := by decide +kernel
theorem dX3_word_30 : decode cX3_word 30 = .ok (.lload_n 1, 1) := by decide +kernel
theorem dX3_word_31 : decode cX3_word 31 = .ok (.ldc2_w 22, 3) := by decide +kernel
theorem dX3_word_34 : decode cX3_word 34 = .ok (.land, 1) := by decide +kernel
theorem dX3_word_35 : decode cX3_word 35 = .ok (.lload_n 1, 1) := by decide +kernel
theorem dX3_word_36 : decode cX3_word 36 = .ok (.ldc2_w 22, 3) := by decide +kernel
theorem dX3_word_39 : decode cX3_word 39 = .ok (.land, 1) := by decide +kernel
theorem dX3_word_40 : decode cX3_word 40 = .ok (.invokevirtual 77, 3) := by decide +kernel
theorem dX3_word_43 : decode cX3_word 43 = .ok (.goto 11, 3) := by decide +kernel
theorem dX3_word_46 : decode cX3_word 46 = .ok (.aload_n 0, 1) := by decide +kernel
theorem dX3_word_47 : decode cX3_word 47 = .ok (.lconst 0, 1) := by decide +kernel
theorem dX3_word_48 : decode cX3_word 48 = .ok (.ldc2_w 22, 3) := by decide +kernel
theorem dX3_word_51 : decode cX3_word 51 = .ok (.invokevirtual 77, 3) := by decide +kernel
theorem dX3_word_54 : decode cX3_word 54 = .ok (.return_, 1) := by decide +kernel
set_option maxRecDepth 20000 in
theorem ggX3_holds_J13_compareUnsigned_74951 : GoodIn wsX3_holds wsJ13_compareUnsigned_74951 := goodIn_r _ [4, 5, 6, 7, 3, 8] (by decide +kernel) (by decide +kernel)
set_option maxRecDepth 20000 in
theorem gX3_holds_J13_compareUnsigned_74951 : GoodIn wsX3_holds (va_wsS RX3 94 yJ13_compareUnsigned_74951 wsJ13_compareUnsigned_74951) := goodIn_app (goodIn_of _ (by decide +kernel)) ggX3_holds_J13_compareUnsigned_74951
theorem dX3_holds_0 : decode cX3_holds 0 = .ok (.iload_n 0, 1) := by decide +kernel
theorem dX3_holds_1 : decode cX3_holds 1 = .ok (.tableswitch 183 0 9 #[55, 67, 79, 93, 107, 121, 135, 147, 159, 171], 55) := by decide +kernel
theorem dX3_holds_56 : decode cX3_holds 56 = .ok (.lload_n 1, 1) := by decide +kernel
theorem dX3_holds_57 : decode cX3_holds 57 = .ok (.lload_n 3, 1) := by decide +kernel
theorem dX3_holds_58 : decode cX3_holds 58 = .ok (.lcmp, 1) := by decide +kernel
theorem dX3_holds_59 : decode cX3_holds 59 = .ok (.ifCond .ne 7, 3) := by decide +kernel
theorem dX3_holds_62 : decode cX3_holds 62 = .ok (.iconst 1, 1) := by decide +kernel
theorem dX3_holds_63 : decode cX3_holds 63 = .ok (.goto 4, 3) := by decide +kernel
theorem dX3_holds_66 : decode cX3_holds 66 = .ok (.iconst 0, 1) := by decide +kernel
theorem dX3_holds_67 : decode cX3_holds 67 = .ok (.ireturn, 1) := by decide +kernel
theorem dX3_holds_68 : decode cX3_holds 68 = .ok (.lload_n 1, 1) := by decide +kernel
theorem dX3_holds_69 : decode cX3_holds 69 = .ok (.lload_n 3, 1) := by decide +kernel
theorem dX3_holds_70 : decode cX3_holds 70 = .ok (.lcmp, 1) := by decide +kernel
theorem dX3_holds_71 : decode cX3_holds 71 = .ok (.ifCond .eq 7, 3) := by decide +kernel
theorem dX3_holds_74 : decode cX3_holds 74 = .ok (.iconst 1, 1) := by decide +kernel
theorem dX3_holds_75 : decode cX3_holds 75 = .ok (.goto 4, 3) := by decide +kernel
theorem dX3_holds_78 : decode cX3_holds 78 = .ok (.iconst 0, 1) := by decide +kernel
theorem dX3_holds_79 : decode cX3_holds 79 = .ok (.ireturn, 1) := by decide +kernel
theorem dX3_holds_80 : decode cX3_holds 80 = .ok (.lload_n 1, 1) := by decide +kernel
theorem dX3_holds_81 : decode cX3_holds 81 = .ok (.lload_n 3, 1) := by decide +kernel
theorem dX3_holds_82 : decode cX3_holds 82 = .ok (.invokestatic 94, 3) := by decide +kernel
theorem dX3_holds_85 : decode cX3_holds 85 = .ok (.ifCond .ge 7, 3) := by decide +kernel
theorem dX3_holds_88 : decode cX3_holds 88 = .ok (.iconst 1, 1) := by decide +kernel
theorem dX3_holds_89 : decode cX3_holds 89 = .ok (.goto 4, 3) := by decide +kernel
theorem dX3_holds_92 : decode cX3_holds 92 = .ok (.iconst 0, 1) := by decide +kernel
theorem dX3_holds_93 : decode cX3_holds 93 = .ok (.ireturn, 1) := by decide +kernel
theorem dX3_holds_94 : decode cX3_holds 94 = .ok (.lload_n 1, 1) := by decide +kernel
theorem dX3_holds_95 : decode cX3_holds 95 = .ok (.lload_n 3, 1) := by decide +kernel
theorem dX3_holds_96 : decode cX3_holds 96 = .ok (.invokestatic 94, 3) := by decide +kernel
theorem dX3_holds_99 : decode cX3_holds 99 = .ok (.ifCond .gt 7, 3) := by decide +kernel
theorem dX3_holds_102 : decode cX3_holds 102 = .ok (.iconst 1, 1) := by decide +kernel
theorem dX3_holds_103 : decode cX3_holds 103 = .ok (.goto 4, 3) := by decide +kernel
theorem dX3_holds_106 : decode cX3_holds 106 = .ok (.iconst 0, 1) := by decide +kernel
theorem dX3_holds_107 : decode cX3_holds 107 = .ok (.ireturn, 1) := by decide +kernel
theorem dX3_holds_108 : decode cX3_holds 108 = .ok (.lload_n 1, 1) := by decide +kernel
theorem dX3_holds_109 : decode cX3_holds 109 = .ok (.lload_n 3, 1) := by decide +kernel
theorem dX3_holds_110 : decode cX3_holds 110 = .ok (.invokestatic 94, 3) := by decide +kernel
theorem dX3_holds_113 : decode cX3_holds 113 = .ok (.ifCond .le 7, 3) := by decide +kernel
theorem dX3_holds_116 : decode cX3_holds 116 = .ok (.iconst 1, 1) := by decide +kernel
theorem dX3_holds_117 : decode cX3_holds 117 = .ok (.goto 4, 3) := by decide +kernel
theorem dX3_holds_120 : decode cX3_holds 120 = .ok (.iconst 0, 1) := by decide +kernel
theorem dX3_holds_121 : decode cX3_holds 121 = .ok (.ireturn, 1) := by decide +kernel
theorem dX3_holds_122 : decode cX3_holds 122 = .ok (.lload_n 1, 1) := by decide +kernel
theorem dX3_holds_123 : decode cX3_holds 123 = .ok (.lload_n 3, 1) := by decide +kernel
theorem dX3_holds_124 : decode cX3_holds 124 = .ok (.invokestatic 94, 3) := by decide +kernel
theorem dX3_holds_127 : decode cX3_holds 127 = .ok (.ifCond .lt 7, 3) := by decide +kernel
theorem dX3_holds_130 : decode cX3_holds 130 = .ok (.iconst 1, 1) := by decide +kernel
theorem dX3_holds_131 : decode cX3_holds 131 = .ok (.goto 4, 3) := by decide +kernel
theorem dX3_holds_134 : decode cX3_holds 134 = .ok (.iconst 0, 1) := by decide +kernel
theorem dX3_holds_135 : decode cX3_holds 135 = .ok (.ireturn, 1) := by decide +kernel
theorem dX3_holds_136 : decode cX3_holds 136 = .ok (.lload_n 1, 1) := by decide +kernel
theorem dX3_holds_137 : decode cX3_holds 137 = .ok (.lload_n 3, 1) := by decide +kernel
theorem dX3_holds_138 : decode cX3_holds 138 = .ok (.lcmp, 1) := by decide +kernel
theorem dX3_holds_139 : decode cX3_holds 139 = .ok (.ifCond .ge 7, 3) := by decide +kernel
theorem dX3_holds_142 : decode cX3_holds 142 = .ok (.iconst 1, 1) := by decide +kernel
theorem dX3_holds_143 : decode cX3_holds 143 = .ok (.goto 4, 3) := by decide +kernel
theorem dX3_holds_146 : decode cX3_holds 146 = .ok (.iconst 0, 1) := by decide +kernel
theorem dX3_holds_147 : decode cX3_holds 147 = .ok (.ireturn, 1) := by decide +kernel
theorem dX3_holds_148 : decode cX3_holds 148 = .ok (.lload_n 1, 1) := by decide +kernel
theorem dX3_holds_149 : decode cX3_holds 149 = .ok (.lload_n 3, 1) := by decide +kernel
theorem dX3_holds_150 : decode cX3_holds 150 = .ok (.lcmp, 1) := by decide +kernel
theorem dX3_holds_151 : decode cX3_holds 151 = .ok (.ifCond .gt 7, 3) := by decide +kernel
theorem dX3_holds_154 : decode cX3_holds 154 = .ok (.iconst 1, 1) := by decide +kernel
theorem dX3_holds_155 : decode cX3_holds 155 = .ok (.goto 4, 3) := by decide +kernel
theorem dX3_holds_158 : decode cX3_holds 158 = .ok (.iconst 0, 1) := by decide +kernel
theorem dX3_holds_159 : decode cX3_holds 159 = .ok (.ireturn, 1) := by decide +kernel
theorem dX3_holds_160 : decode cX3_holds 160 = .ok (.lload_n 1, 1) := by decide +kernel
theorem dX3_holds_161 : decode cX3_holds 161 = .ok (.lload_n 3, 1) := by decide +kernel
theorem dX3_holds_162 : decode cX3_holds 162 = .ok (.lcmp, 1) := by decide +kernel
theorem dX3_holds_163 : decode cX3_holds 163 = .ok (.ifCond .le 7, 3) := by decide +kernel
theorem dX3_holds_166 : decode cX3_holds 166 = .ok (.iconst 1, 1) := by decide +kernel
theorem dX3_holds_167 : decode cX3_holds 167 = .ok (.goto 4, 3) := by decide +kernel
theorem dX3_holds_170 : decode cX3_holds 170 = .ok (.iconst 0, 1) := by decide +kernel
theorem dX3_holds_171 : decode cX3_holds 171 = .ok (.ireturn, 1) := by decide +kernel
theorem dX3_holds_172 : decode cX3_holds 172 = .ok (.lload_n 1, 1) := by decide +kernel
theorem dX3_holds_173 : decode cX3_holds 173 = .ok (.lload_n 3, 1) := by decide +kernel
theorem dX3_holds_174 : decode cX3_holds 174 = .ok (.lcmp, 1) := by decide +kernel
theorem dX3_holds_175 : decode cX3_holds 175 = .ok (.ifCond .lt 7, 3) := by decide +kernel
theorem dX3_holds_178 : decode cX3_holds 178 = .ok (.iconst 1, 1) := by decide +kernel
theorem dX3_holds_179 : decode cX3_holds 179 = .ok (.goto 4, 3) := by decide +kernel
theorem dX3_holds_182 : decode cX3_holds 182 = .ok (.iconst 0, 1) := by decide +kernel
theorem dX3_holds_183 : decode cX3_holds 183 = .ok (.ireturn, 1) := by decide +kernel
theorem dX3_holds_184 : decode cX3_holds 184 = .ok (.lload_n 1, 1) := by decide +kernel
theorem dX3_holds_185 : decode cX3_holds 185 = .ok (.lload_n 3, 1) := by decide +kernel
theorem dX3_holds_186 : decode cX3_holds 186 = .ok (.land, 1) := by decide +kernel
theorem dX3_holds_187 : decode cX3_holds 187 = .ok (.lconst 0, 1) := by decide +kernel
theorem dX3_holds_188 : decode cX3_holds 188 = .ok (.lcmp, 1) := by decide +kernel
theorem dX3_holds_189 : decode cX3_holds 189 = .ok (.ifCond .eq 7, 3) := by decide +kernel
theorem dX3_holds_192 : decode cX3_holds 192 = .ok (.iconst 1, 1) := by decide +kernel
theorem dX3_holds_193 : decode cX3_holds 193 = .ok (.goto 4, 3) := by decide +kernel
theorem dX3_holds_196 : decode cX3_holds 196 = .ok (.iconst 0, 1) := by decide +kernel
theorem dX3_holds_197 : decode cX3_holds 197 = .ok (.ireturn, 1) := by decide +kernel
set_option maxRecDepth 20000 in
theorem ggX3_side_X3_apart : GoodIn wsX3_side wsX3_apart := goodIn_r _ [16, 1, 7, 2, 8, 27, 28, 29, 30, 31, 32, 33, 34, 35, 36] (by decide +kernel) (by decide +kernel)
set_option maxRecDepth 20000 in
theorem gX3_side_X3_apart : GoodIn wsX3_side (wsV RX3 110 RX3 yX3_apart wsX3_apart) := goodIn_app (goodIn_of _ (by decide +kernel)) ggX3_side_X3_apart
set_option maxRecDepth 20000 in
theorem ggX3_side_X3_below : GoodIn wsX3_side wsX3_below := goodIn_r _ [20, 1, 2, 3, 4, 5, 6, 7, 8, 9, 10, 11, 21, 22, 27, 28, 29, 30, 31, 32, 33, 34, 35, 36] (by decide +kernel) (by decide +kernel)
set_option maxRecDepth 20000 in
theorem gX3_side_X3_below : GoodIn wsX3_side (wsV RX3 113 RX3 yX3_below wsX3_below) := goodIn_app (goodIn_of _ (by decide +kernel)) ggX3_side_X3_below
set_option maxRecDepth 20000 in
theorem ggX3_side_X3_turn : GoodIn wsX3_side wsX3_turn := goodIn_r _ [26, 1, 7, 2, 8, 27, 28, 29, 30, 31, 32, 33, 34, 35, 36] (by decide +kernel) (by decide +kernel)
set_option maxRecDepth 20000 in
theorem gX3_side_X3_turn : GoodIn wsX3_side (wsV RX3 117 RX3 yX3_turn wsX3_turn) := goodIn_app (goodIn_of _ (by decide +kernel)) ggX3_side_X3_turn
theorem dX3_side_0 : decode cX3_side 0 = .ok (.iload_n 1, 1) := by decide +kernel
theorem dX3_side_1 : decode cX3_side 1 = .ok (.tableswitch 181 0 9 #[55, 104, 111, 118, 139, 139, 125, 132, 139, 139], 55) := by decide +kernel
theorem dX3_side_56 : decode cX3_side 56 = .ok (.aload_n 0, 1) := by decide +kernel
theorem dX3_side_57 : decode cX3_side 57 = .ok (.aload_n 0, 1) := by decide +kernel
theorem dX3_side_58 : decode cX3_side 58 = .ok (.getfield 98, 3) := by decide +kernel
theorem dX3_side_61 : decode cX3_side 61 = .ok (.aload_n 0, 1) := by decide +kernel
theorem dX3_side_62 : decode cX3_side 62 = .ok (.getfield 101, 3) := by decide +kernel
theorem dX3_side_65 : decode cX3_side 65 = .ok (.invokestatic 74, 3) := by decide +kernel
theorem dX3_side_68 : decode cX3_side 68 = .ok (.putfield 98, 3) := by decide +kernel
theorem dX3_side_71 : decode cX3_side 71 = .ok (.aload_n 0, 1) := by decide +kernel
theorem dX3_side_72 : decode cX3_side 72 = .ok (.aload_n 0, 1) := by decide +kernel
theorem dX3_side_73 : decode cX3_side 73 = .ok (.getfield 104, 3) := by decide +kernel
theorem dX3_side_76 : decode cX3_side 76 = .ok (.aload_n 0, 1) := by decide +kernel
theorem dX3_side_77 : decode cX3_side 77 = .ok (.getfield 107, 3) := by decide +kernel
theorem dX3_side_80 : decode cX3_side 80 = .ok (.invokestatic 71, 3) := by decide +kernel
theorem dX3_side_83 : decode cX3_side 83 = .ok (.putfield 104, 3) := by decide +kernel
theorem dX3_side_86 : decode cX3_side 86 = .ok (.aload_n 0, 1) := by decide +kernel
theorem dX3_side_87 : decode cX3_side 87 = .ok (.aload_n 0, 1) := by decide +kernel
theorem dX3_side_88 : decode cX3_side 88 = .ok (.getfield 98, 3) := by decide +kernel
theorem dX3_side_91 : decode cX3_side 91 = .ok (.putfield 101, 3) := by decide +kernel
theorem dX3_side_94 : decode cX3_side 94 = .ok (.aload_n 0, 1) := by decide +kernel
theorem dX3_side_95 : decode cX3_side 95 = .ok (.aload_n 0, 1) := by decide +kernel
theorem dX3_side_96 : decode cX3_side 96 = .ok (.getfield 104, 3) := by decide +kernel
theorem dX3_side_99 : decode cX3_side 99 = .ok (.putfield 107, 3) := by decide +kernel
theorem dX3_side_102 : decode cX3_side 102 = .ok (.goto 80, 3) := by decide +kernel
theorem dX3_side_105 : decode cX3_side 105 = .ok (.aload_n 0, 1) := by decide +kernel
theorem dX3_side_106 : decode cX3_side 106 = .ok (.invokevirtual 110, 3) := by decide +kernel
theorem dX3_side_109 : decode cX3_side 109 = .ok (.goto 73, 3) := by decide +kernel
theorem dX3_side_112 : decode cX3_side 112 = .ok (.aload_n 0, 1) := by decide +kernel
theorem dX3_side_113 : decode cX3_side 113 = .ok (.iconst 1, 1) := by decide +kernel
theorem dX3_side_114 : decode cX3_side 114 = .ok (.iconst 1, 1) := by decide +kernel
theorem dX3_side_115 : decode cX3_side 115 = .ok (.invokevirtual 113, 3) := by decide +kernel
theorem dX3_side_118 : decode cX3_side 118 = .ok (.ireturn, 1) := by decide +kernel
theorem dX3_side_119 : decode cX3_side 119 = .ok (.aload_n 0, 1) := by decide +kernel
theorem dX3_side_120 : decode cX3_side 120 = .ok (.iconst 0, 1) := by decide +kernel
theorem dX3_side_121 : decode cX3_side 121 = .ok (.iconst 1, 1) := by decide +kernel
theorem dX3_side_122 : decode cX3_side 122 = .ok (.invokevirtual 113, 3) := by decide +kernel
theorem dX3_side_125 : decode cX3_side 125 = .ok (.ireturn, 1) := by decide +kernel
theorem dX3_side_126 : decode cX3_side 126 = .ok (.aload_n 0, 1) := by decide +kernel
theorem dX3_side_127 : decode cX3_side 127 = .ok (.iconst 1, 1) := by decide +kernel
theorem dX3_side_128 : decode cX3_side 128 = .ok (.iconst 0, 1) := by decide +kernel
theorem dX3_side_129 : decode cX3_side 129 = .ok (.invokevirtual 113, 3) := by decide +kernel
theorem dX3_side_132 : decode cX3_side 132 = .ok (.ireturn, 1) := by decide +kernel
theorem dX3_side_133 : decode cX3_side 133 = .ok (.aload_n 0, 1) := by decide +kernel
theorem dX3_side_134 : decode cX3_side 134 = .ok (.iconst 0, 1) := by decide +kernel
theorem dX3_side_135 : decode cX3_side 135 = .ok (.iconst 0, 1) := by decide +kernel
theorem dX3_side_136 : decode cX3_side 136 = .ok (.invokevirtual 113, 3) := by decide +kernel
theorem dX3_side_139 : decode cX3_side 139 = .ok (.ireturn, 1) := by decide +kernel
theorem dX3_side_140 : decode cX3_side 140 = .ok (.aload_n 0, 1) := by decide +kernel
theorem dX3_side_141 : decode cX3_side 141 = .ok (.invokevirtual 117, 3) := by decide +kernel
theorem dX3_side_144 : decode cX3_side 144 = .ok (.aload_n 0, 1) := by decide +kernel
theorem dX3_side_145 : decode cX3_side 145 = .ok (.iload_n 1, 1) := by decide +kernel
theorem dX3_side_146 : decode cX3_side 146 = .ok (.iconst 4, 1) := by decide +kernel
theorem dX3_side_147 : decode cX3_side 147 = .ok (.if_icmp .eq 9, 3) := by decide +kernel
theorem dX3_side_150 : decode cX3_side 150 = .ok (.iload_n 1, 1) := by decide +kernel
theorem dX3_side_151 : decode cX3_side 151 = .ok (.bipush 8, 2) := by decide +kernel
theorem dX3_side_153 : decode cX3_side 153 = .ok (.if_icmp .ne 7, 3) := by decide +kernel
theorem dX3_side_156 : decode cX3_side 156 = .ok (.iconst 1, 1) := by decide +kernel
theorem dX3_side_157 : decode cX3_side 157 = .ok (.goto 4, 3) := by decide +kernel
theorem dX3_side_160 : decode cX3_side 160 = .ok (.iconst 0, 1) := by decide +kernel
theorem dX3_side_161 : decode cX3_side 161 = .ok (.iload_n 1, 1) := by decide +kernel
theorem dX3_side_162 : decode cX3_side 162 = .ok (.bipush 6, 2) := by decide +kernel
theorem dX3_side_164 : decode cX3_side 164 = .ok (.if_icmp .ge 7, 3) := by decide +kernel
theorem dX3_side_167 : decode cX3_side 167 = .ok (.iconst 1, 1) := by decide +kernel
theorem dX3_side_168 : decode cX3_side 168 = .ok (.goto 4, 3) := by decide +kernel
theorem dX3_side_171 : decode cX3_side 171 = .ok (.iconst 0, 1) := by decide +kernel
theorem dX3_side_172 : decode cX3_side 172 = .ok (.invokevirtual 113, 3) := by decide +kernel
theorem dX3_side_175 : decode cX3_side 175 = .ok (.istore_n 2, 1) := by decide +kernel
theorem dX3_side_176 : decode cX3_side 176 = .ok (.aload_n 0, 1) := by decide +kernel
theorem dX3_side_177 : decode cX3_side 177 = .ok (.invokevirtual 117, 3) := by decide +kernel
theorem dX3_side_180 : decode cX3_side 180 = .ok (.iload_n 2, 1) := by decide +kernel
theorem dX3_side_181 : decode cX3_side 181 = .ok (.ireturn, 1) := by decide +kernel
theorem dX3_side_182 : decode cX3_side 182 = .ok (.aload_n 0, 1) := by decide +kernel
theorem dX3_side_183 : decode cX3_side 183 = .ok (.getfield 98, 3) := by decide +kernel
theorem dX3_side_186 : decode cX3_side 186 = .ok (.aload_n 0, 1) := by decide +kernel
theorem dX3_side_187 : decode cX3_side 187 = .ok (.getfield 104, 3) := by decide +kernel
theorem dX3_side_190 : decode cX3_side 190 = .ok (.lcmp, 1) := by decide +kernel
theorem dX3_side_191 : decode cX3_side 191 = .ok (.ifCond .gt 19, 3) := by decide +kernel
theorem dX3_side_194 : decode cX3_side 194 = .ok (.aload_n 0, 1) := by decide +kernel
theorem dX3_side_195 : decode cX3_side 195 = .ok (.getfield 101, 3) := by decide +kernel
theorem dX3_side_198 : decode cX3_side 198 = .ok (.aload_n 0, 1) := by decide +kernel
theorem dX3_side_199 : decode cX3_side 199 = .ok (.getfield 107, 3) := by decide +kernel
theorem dX3_side_202 : decode cX3_side 202 = .ok (.lcmp, 1) := by decide +kernel
theorem dX3_side_203 : decode cX3_side 203 = .ok (.ifCond .gt 7, 3) := by decide +kernel
theorem dX3_side_206 : decode cX3_side 206 = .ok (.iconst 1, 1) := by decide +kernel
theorem dX3_side_207 : decode cX3_side 207 = .ok (.goto 4, 3) := by decide +kernel
theorem dX3_side_210 : decode cX3_side 210 = .ok (.iconst 0, 1) := by decide +kernel
theorem dX3_side_211 : decode cX3_side 211 = .ok (.ireturn, 1) := by decide +kernel
theorem dX3_turn_0 : decode cX3_turn 0 = .ok (.aload_n 0, 1) := by decide +kernel
theorem dX3_turn_1 : decode cX3_turn 1 = .ok (.getfield 98, 3) := by decide +kernel
theorem dX3_turn_4 : decode cX3_turn 4 = .ok (.lstore_n 1, 1) := by decide +kernel
theorem dX3_turn_5 : decode cX3_turn 5 = .ok (.aload_n 0, 1) := by decide +kernel
theorem dX3_turn_6 : decode cX3_turn 6 = .ok (.getfield 104, 3) := by decide +kernel
theorem dX3_turn_9 : decode cX3_turn 9 = .ok (.lstore_n 3, 1) := by decide +kernel
theorem dX3_turn_10 : decode cX3_turn 10 = .ok (.aload_n 0, 1) := by decide +kernel
theorem dX3_turn_11 : decode cX3_turn 11 = .ok (.aload_n 0, 1) := by decide +kernel
theorem dX3_turn_12 : decode cX3_turn 12 = .ok (.getfield 101, 3) := by decide +kernel
theorem dX3_turn_15 : decode cX3_turn 15 = .ok (.putfield 98, 3) := by decide +kernel
theorem dX3_turn_18 : decode cX3_turn 18 = .ok (.aload_n 0, 1) := by decide +kernel
theorem dX3_turn_19 : decode cX3_turn 19 = .ok (.aload_n 0, 1) := by decide +kernel
theorem dX3_turn_20 : decode cX3_turn 20 = .ok (.getfield 107, 3) := by decide +kernel
theorem dX3_turn_23 : decode cX3_turn 23 = .ok (.putfield 104, 3) := by decide +kernel
theorem dX3_turn_26 : decode cX3_turn 26 = .ok (.aload_n 0, 1) := by decide +kernel
theorem dX3_turn_27 : decode cX3_turn 27 = .ok (.lload_n 1, 1) := by decide +kernel
theorem dX3_turn_28 : decode cX3_turn 28 = .ok (.putfield 101, 3) := by decide +kernel
theorem dX3_turn_31 : decode cX3_turn 31 = .ok (.aload_n 0, 1) := by decide +kernel
theorem dX3_turn_32 : decode cX3_turn 32 = .ok (.lload_n 3, 1) := by decide +kernel
theorem dX3_turn_33 : decode cX3_turn 33 = .ok (.putfield 107, 3) := by decide +kernel
theorem dX3_turn_36 : decode cX3_turn 36 = .ok (.return_, 1) := by decide +kernel
theorem dX3_apart_0 : decode cX3_apart 0 = .ok (.aload_n 0, 1) := by decide +kernel
theorem dX3_apart_1 : decode cX3_apart 1 = .ok (.getfield 98, 3) := by decide +kernel
theorem dX3_apart_4 : decode cX3_apart 4 = .ok (.aload_n 0, 1) := by decide +kernel
theorem dX3_apart_5 : decode cX3_apart 5 = .ok (.getfield 104, 3) := by decide +kernel
theorem dX3_apart_8 : decode cX3_apart 8 = .ok (.lcmp, 1) := by decide +kernel
theorem dX3_apart_9 : decode cX3_apart 9 = .ok (.ifCond .ne 7, 3) := by decide +kernel
theorem dX3_apart_12 : decode cX3_apart 12 = .ok (.iconst 1, 1) := by decide +kernel
theorem dX3_apart_13 : decode cX3_apart 13 = .ok (.goto 4, 3) := by decide +kernel
theorem dX3_apart_16 : decode cX3_apart 16 = .ok (.iconst 0, 1) := by decide +kernel
theorem dX3_apart_17 : decode cX3_apart 17 = .ok (.istore_n 1, 1) := by decide +kernel
theorem dX3_apart_18 : decode cX3_apart 18 = .ok (.aload_n 0, 1) := by decide +kernel
theorem dX3_apart_19 : decode cX3_apart 19 = .ok (.getfield 101, 3) := by decide +kernel
theorem dX3_apart_22 : decode cX3_apart 22 = .ok (.aload_n 0, 1) := by decide +kernel
theorem dX3_apart_23 : decode cX3_apart 23 = .ok (.getfield 107, 3) := by decide +kernel
theorem dX3_apart_26 : decode cX3_apart 26 = .ok (.lcmp, 1) := by decide +kernel
theorem dX3_apart_27 : decode cX3_apart 27 = .ok (.ifCond .ne 7, 3) := by decide +kernel
theorem dX3_apart_30 : decode cX3_apart 30 = .ok (.iconst 1, 1) := by decide +kernel
theorem dX3_apart_31 : decode cX3_apart 31 = .ok (.goto 4, 3) := by decide +kernel
theorem dX3_apart_34 : decode cX3_apart 34 = .ok (.iconst 0, 1) := by decide +kernel
theorem dX3_apart_35 : decode cX3_apart 35 = .ok (.istore_n 2, 1) := by decide +kernel
theorem dX3_apart_36 : decode cX3_apart 36 = .ok (.iload_n 2, 1) := by decide +kernel
theorem dX3_apart_37 : decode cX3_apart 37 = .ok (.ifCond .eq 28, 3) := by decide +kernel
theorem dX3_apart_40 : decode cX3_apart 40 = .ok (.aload_n 0, 1) := by decide +kernel
theorem dX3_apart_41 : decode cX3_apart 41 = .ok (.getfield 98, 3) := by decide +kernel
theorem dX3_apart_44 : decode cX3_apart 44 = .ok (.aload_n 0, 1) := by decide +kernel
theorem dX3_apart_45 : decode cX3_apart 45 = .ok (.getfield 101, 3) := by decide +kernel
theorem dX3_apart_48 : decode cX3_apart 48 = .ok (.lcmp, 1) := by decide +kernel
theorem dX3_apart_49 : decode cX3_apart 49 = .ok (.ifCond .ne 16, 3) := by decide +kernel
theorem dX3_apart_52 : decode cX3_apart 52 = .ok (.aload_n 0, 1) := by decide +kernel
theorem dX3_apart_53 : decode cX3_apart 53 = .ok (.dup, 1) := by decide +kernel
theorem dX3_apart_54 : decode cX3_apart 54 = .ok (.getfield 98, 3) := by decide +kernel
theorem dX3_apart_57 : decode cX3_apart 57 = .ok (.lconst 1, 1) := by decide +kernel
theorem dX3_apart_58 : decode cX3_apart 58 = .ok (.ladd, 1) := by decide +kernel
theorem dX3_apart_59 : decode cX3_apart 59 = .ok (.putfield 98, 3) := by decide +kernel
theorem dX3_apart_62 : decode cX3_apart 62 = .ok (.goto 87, 3) := by decide +kernel
theorem dX3_apart_65 : decode cX3_apart 65 = .ok (.iload_n 2, 1) := by decide +kernel
theorem dX3_apart_66 : decode cX3_apart 66 = .ok (.ifCond .eq 28, 3) := by decide +kernel
theorem dX3_apart_69 : decode cX3_apart 69 = .ok (.aload_n 0, 1) := by decide +kernel
theorem dX3_apart_70 : decode cX3_apart 70 = .ok (.getfield 104, 3) := by decide +kernel
theorem dX3_apart_73 : decode cX3_apart 73 = .ok (.aload_n 0, 1) := by decide +kernel
theorem dX3_apart_74 : decode cX3_apart 74 = .ok (.getfield 101, 3) := by decide +kernel
theorem dX3_apart_77 : decode cX3_apart 77 = .ok (.lcmp, 1) := by decide +kernel
theorem dX3_apart_78 : decode cX3_apart 78 = .ok (.ifCond .ne 16, 3) := by decide +kernel
theorem dX3_apart_81 : decode cX3_apart 81 = .ok (.aload_n 0, 1) := by decide +kernel
theorem dX3_apart_82 : decode cX3_apart 82 = .ok (.dup, 1) := by decide +kernel
theorem dX3_apart_83 : decode cX3_apart 83 = .ok (.getfield 104, 3) := by decide +kernel
theorem dX3_apart_86 : decode cX3_apart 86 = .ok (.lconst 1, 1) := by decide +kernel
theorem dX3_apart_87 : decode cX3_apart 87 = .ok (.lsub, 1) := by decide +kernel
theorem dX3_apart_88 : decode cX3_apart 88 = .ok (.putfield 104, 3) := by decide +kernel
theorem dX3_apart_91 : decode cX3_apart 91 = .ok (.goto 58, 3) := by decide +kernel
theorem dX3_apart_94 : decode cX3_apart 94 = .ok (.iload_n 1, 1) := by decide +kernel
theorem dX3_apart_95 : decode cX3_apart 95 = .ok (.ifCond .eq 28, 3) := by decide +kernel
theorem dX3_apart_98 : decode cX3_apart 98 = .ok (.aload_n 0, 1) := by decide +kernel
theorem dX3_apart_99 : decode cX3_apart 99 = .ok (.getfield 101, 3) := by decide +kernel
theorem dX3_apart_102 : decode cX3_apart 102 = .ok (.aload_n 0, 1) := by decide +kernel
theorem dX3_apart_103 : decode cX3_apart 103 = .ok (.getfield 98, 3) := by decide +kernel
theorem dX3_apart_106 : decode cX3_apart 106 = .ok (.lcmp, 1) := by decide +kernel
theorem dX3_apart_107 : decode cX3_apart 107 = .ok (.ifCond .ne 16, 3) := by decide +kernel
theorem dX3_apart_110 : decode cX3_apart 110 = .ok (.aload_n 0, 1) := by decide +kernel
theorem dX3_apart_111 : decode cX3_apart 111 = .ok (.dup, 1) := by decide +kernel
theorem dX3_apart_112 : decode cX3_apart 112 = .ok (.getfield 101, 3) := by decide +kernel
theorem dX3_apart_115 : decode cX3_apart 115 = .ok (.lconst 1, 1) := by decide +kernel
theorem dX3_apart_116 : decode cX3_apart 116 = .ok (.ladd, 1) := by decide +kernel
theorem dX3_apart_117 : decode cX3_apart 117 = .ok (.putfield 101, 3) := by decide +kernel
theorem dX3_apart_120 : decode cX3_apart 120 = .ok (.goto 29, 3) := by decide +kernel
theorem dX3_apart_123 : decode cX3_apart 123 = .ok (.iload_n 1, 1) := by decide +kernel
theorem dX3_apart_124 : decode cX3_apart 124 = .ok (.ifCond .eq 25, 3) := by decide +kernel
theorem dX3_apart_127 : decode cX3_apart 127 = .ok (.aload_n 0, 1) := by decide +kernel
theorem dX3_apart_128 : decode cX3_apart 128 = .ok (.getfield 107, 3) := by decide +kernel
theorem dX3_apart_131 : decode cX3_apart 131 = .ok (.aload_n 0, 1) := by decide +kernel
theorem dX3_apart_132 : decode cX3_apart 132 = .ok (.getfield 98, 3) := by decide +kernel
theorem dX3_apart_135 : decode cX3_apart 135 = .ok (.lcmp, 1) := by decide +kernel
theorem dX3_apart_136 : decode cX3_apart 136 = .ok (.ifCond .ne 13, 3) := by decide +kernel
theorem dX3_apart_139 : decode cX3_apart 139 = .ok (.aload_n 0, 1) := by decide +kernel
theorem dX3_apart_140 : decode cX3_apart 140 = .ok (.dup, 1) := by decide +kernel
theorem dX3_apart_141 : decode cX3_apart 141 = .ok (.getfield 107, 3) := by decide +kernel
theorem dX3_apart_144 : decode cX3_apart 144 = .ok (.lconst 1, 1) := by decide +kernel
theorem dX3_apart_145 : decode cX3_apart 145 = .ok (.lsub, 1) := by decide +kernel
theorem dX3_apart_146 : decode cX3_apart 146 = .ok (.putfield 107, 3) := by decide +kernel
theorem dX3_apart_149 : decode cX3_apart 149 = .ok (.return_, 1) := by decide +kernel
theorem dX3_below_0 : decode cX3_below 0 = .ok (.iload_n 2, 1) := by decide +kernel
theorem dX3_below_1 : decode cX3_below 1 = .ok (.ifCond .eq 90, 3) := by decide +kernel
theorem dX3_below_4 : decode cX3_below 4 = .ok (.aload_n 0, 1) := by decide +kernel
theorem dX3_below_5 : decode cX3_below 5 = .ok (.getfield 98, 3) := by decide +kernel
theorem dX3_below_8 : decode cX3_below 8 = .ok (.lconst 0, 1) := by decide +kernel
theorem dX3_below_9 : decode cX3_below 9 = .ok (.lcmp, 1) := by decide +kernel
theorem dX3_below_10 : decode cX3_below 10 = .ok (.ifCond .lt 12, 3) := by decide +kernel
theorem dX3_below_13 : decode cX3_below 13 = .ok (.aload_n 0, 1) := by decide +kernel
theorem dX3_below_14 : decode cX3_below 14 = .ok (.getfield 101, 3) := by decide +kernel
theorem dX3_below_17 : decode cX3_below 17 = .ok (.lconst 0, 1) := by decide +kernel
theorem dX3_below_18 : decode cX3_below 18 = .ok (.lcmp, 1) := by decide +kernel
theorem dX3_below_19 : decode cX3_below 19 = .ok (.ifCond .ge 72, 3) := by decide +kernel
theorem dX3_below_22 : decode cX3_below 22 = .ok (.aload_n 0, 1) := by decide +kernel
theorem dX3_below_23 : decode cX3_below 23 = .ok (.getfield 101, 3) := by decide +kernel
theorem dX3_below_26 : decode cX3_below 26 = .ok (.lconst 0, 1) := by decide +kernel
theorem dX3_below_27 : decode cX3_below 27 = .ok (.lcmp, 1) := by decide +kernel
theorem dX3_below_28 : decode cX3_below 28 = .ok (.ifCond .ge 5, 3) := by decide +kernel
theorem dX3_below_31 : decode cX3_below 31 = .ok (.iconst 1, 1) := by decide +kernel
theorem dX3_below_32 : decode cX3_below 32 = .ok (.ireturn, 1) := by decide +kernel
theorem dX3_below_33 : decode cX3_below 33 = .ok (.aload_n 0, 1) := by decide +kernel
theorem dX3_below_34 : decode cX3_below 34 = .ok (.aload_n 0, 1) := by decide +kernel
theorem dX3_below_35 : decode cX3_below 35 = .ok (.getfield 98, 3) := by decide +kernel
theorem dX3_below_38 : decode cX3_below 38 = .ok (.lconst 0, 1) := by decide +kernel
theorem dX3_below_39 : decode cX3_below 39 = .ok (.invokestatic 74, 3) := by decide +kernel
theorem dX3_below_42 : decode cX3_below 42 = .ok (.putfield 98, 3) := by decide +kernel
theorem dX3_below_45 : decode cX3_below 45 = .ok (.aload_n 0, 1) := by decide +kernel
theorem dX3_below_46 : decode cX3_below 46 = .ok (.aload_n 0, 1) := by decide +kernel
theorem dX3_below_47 : decode cX3_below 47 = .ok (.getfield 104, 3) := by decide +kernel
theorem dX3_below_50 : decode cX3_below 50 = .ok (.iload_n 1, 1) := by decide +kernel
theorem dX3_below_51 : decode cX3_below 51 = .ok (.ifCond .eq 12, 3) := by decide +kernel
theorem dX3_below_54 : decode cX3_below 54 = .ok (.aload_n 0, 1) := by decide +kernel
theorem dX3_below_55 : decode cX3_below 55 = .ok (.getfield 107, 3) := by decide +kernel
theorem dX3_below_58 : decode cX3_below 58 = .ok (.lconst 1, 1) := by decide +kernel
theorem dX3_below_59 : decode cX3_below 59 = .ok (.lsub, 1) := by decide +kernel
theorem dX3_below_60 : decode cX3_below 60 = .ok (.goto 7, 3) := by decide +kernel
theorem dX3_below_63 : decode cX3_below 63 = .ok (.aload_n 0, 1) := by decide +kernel
theorem dX3_below_64 : decode cX3_below 64 = .ok (.getfield 107, 3) := by decide +kernel
theorem dX3_below_67 : decode cX3_below 67 = .ok (.invokestatic 71, 3) := by decide +kernel
theorem dX3_below_70 : decode cX3_below 70 = .ok (.putfield 104, 3) := by decide +kernel
theorem dX3_below_73 : decode cX3_below 73 = .ok (.aload_n 0, 1) := by decide +kernel
theorem dX3_below_74 : decode cX3_below 74 = .ok (.getfield 98, 3) := by decide +kernel
theorem dX3_below_77 : decode cX3_below 77 = .ok (.aload_n 0, 1) := by decide +kernel
theorem dX3_below_78 : decode cX3_below 78 = .ok (.getfield 104, 3) := by decide +kernel
theorem dX3_below_81 : decode cX3_below 81 = .ok (.lcmp, 1) := by decide +kernel
theorem dX3_below_82 : decode cX3_below 82 = .ok (.ifCond .gt 7, 3) := by decide +kernel
theorem dX3_below_85 : decode cX3_below 85 = .ok (.iconst 1, 1) := by decide +kernel
theorem dX3_below_86 : decode cX3_below 86 = .ok (.goto 4, 3) := by decide +kernel
theorem dX3_below_89 : decode cX3_below 89 = .ok (.iconst 0, 1) := by decide +kernel
theorem dX3_below_90 : decode cX3_below 90 = .ok (.ireturn, 1) := by decide +kernel
theorem dX3_below_91 : decode cX3_below 91 = .ok (.iload_n 1, 1) := by decide +kernel
theorem dX3_below_92 : decode cX3_below 92 = .ok (.ifCond .eq 27, 3) := by decide +kernel
theorem dX3_below_95 : decode cX3_below 95 = .ok (.aload_n 0, 1) := by decide +kernel
theorem dX3_below_96 : decode cX3_below 96 = .ok (.getfield 107, 3) := by decide +kernel
theorem dX3_below_99 : decode cX3_below 99 = .ok (.ldc2_w 39, 3) := by decide +kernel
theorem dX3_below_102 : decode cX3_below 102 = .ok (.lcmp, 1) := by decide +kernel
theorem dX3_below_103 : decode cX3_below 103 = .ok (.ifCond .eq 14, 3) := by decide +kernel
theorem dX3_below_106 : decode cX3_below 106 = .ok (.aload_n 0, 1) := by decide +kernel
theorem dX3_below_107 : decode cX3_below 107 = .ok (.getfield 98, 3) := by decide +kernel
theorem dX3_below_110 : decode cX3_below 110 = .ok (.ldc2_w 45, 3) := by decide +kernel
theorem dX3_below_113 : decode cX3_below 113 = .ok (.lcmp, 1) := by decide +kernel
theorem dX3_below_114 : decode cX3_below 114 = .ok (.ifCond .ne 5, 3) := by decide +kernel
theorem dX3_below_117 : decode cX3_below 117 = .ok (.iconst 0, 1) := by decide +kernel
theorem dX3_below_118 : decode cX3_below 118 = .ok (.ireturn, 1) := by decide +kernel
theorem dX3_below_119 : decode cX3_below 119 = .ok (.aload_n 0, 1) := by decide +kernel
theorem dX3_below_120 : decode cX3_below 120 = .ok (.getfield 104, 3) := by decide +kernel
theorem dX3_below_123 : decode cX3_below 123 = .ok (.iload_n 1, 1) := by decide +kernel
theorem dX3_below_124 : decode cX3_below 124 = .ok (.ifCond .eq 12, 3) := by decide +kernel
theorem dX3_below_127 : decode cX3_below 127 = .ok (.aload_n 0, 1) := by decide +kernel
theorem dX3_below_128 : decode cX3_below 128 = .ok (.getfield 107, 3) := by decide +kernel
theorem dX3_below_131 : decode cX3_below 131 = .ok (.lconst 1, 1) := by decide +kernel
theorem dX3_below_132 : decode cX3_below 132 = .ok (.lsub, 1) := by decide +kernel
theorem dX3_below_133 : decode cX3_below 133 = .ok (.goto 7, 3) := by decide +kernel
theorem dX3_below_136 : decode cX3_below 136 = .ok (.aload_n 0, 1) := by decide +kernel
theorem dX3_below_137 : decode cX3_below 137 = .ok (.getfield 107, 3) := by decide +kernel
theorem dX3_below_140 : decode cX3_below 140 = .ok (.invokestatic 71, 3) := by decide +kernel
theorem dX3_below_143 : decode cX3_below 143 = .ok (.lstore_n 3, 1) := by decide +kernel
theorem dX3_below_144 : decode cX3_below 144 = .ok (.aload_n 0, 1) := by decide +kernel
theorem dX3_below_145 : decode cX3_below 145 = .ok (.getfield 101, 3) := by decide +kernel
theorem dX3_below_148 : decode cX3_below 148 = .ok (.iload_n 1, 1) := by decide +kernel
theorem dX3_below_149 : decode cX3_below 149 = .ok (.ifCond .eq 12, 3) := by decide +kernel
theorem dX3_below_152 : decode cX3_below 152 = .ok (.aload_n 0, 1) := by decide +kernel
theorem dX3_below_153 : decode cX3_below 153 = .ok (.getfield 98, 3) := by decide +kernel
theorem dX3_below_156 : decode cX3_below 156 = .ok (.lconst 1, 1) := by decide +kernel
theorem dX3_below_157 : decode cX3_below 157 = .ok (.ladd, 1) := by decide +kernel
theorem dX3_below_158 : decode cX3_below 158 = .ok (.goto 7, 3) := by decide +kernel
theorem dX3_below_161 : decode cX3_below 161 = .ok (.aload_n 0, 1) := by decide +kernel
theorem dX3_below_162 : decode cX3_below 162 = .ok (.getfield 98, 3) := by decide +kernel
theorem dX3_below_165 : decode cX3_below 165 = .ok (.invokestatic 74, 3) := by decide +kernel
theorem dX3_below_168 : decode cX3_below 168 = .ok (.lstore 5, 2) := by decide +kernel
theorem dX3_below_170 : decode cX3_below 170 = .ok (.aload_n 0, 1) := by decide +kernel
theorem dX3_below_171 : decode cX3_below 171 = .ok (.lload_n 3, 1) := by decide +kernel
theorem dX3_below_172 : decode cX3_below 172 = .ok (.putfield 104, 3) := by decide +kernel
theorem dX3_below_175 : decode cX3_below 175 = .ok (.aload_n 0, 1) := by decide +kernel
theorem dX3_below_176 : decode cX3_below 176 = .ok (.lload 5, 2) := by decide +kernel
theorem dX3_below_178 : decode cX3_below 178 = .ok (.putfield 101, 3) := by decide +kernel
theorem dX3_below_181 : decode cX3_below 181 = .ok (.aload_n 0, 1) := by decide +kernel
theorem dX3_below_182 : decode cX3_below 182 = .ok (.getfield 98, 3) := by decide +kernel
theorem dX3_below_185 : decode cX3_below 185 = .ok (.aload_n 0, 1) := by decide +kernel
theorem dX3_below_186 : decode cX3_below 186 = .ok (.getfield 104, 3) := by decide +kernel
theorem dX3_below_189 : decode cX3_below 189 = .ok (.lcmp, 1) := by decide +kernel
theorem dX3_below_190 : decode cX3_below 190 = .ok (.ifCond .gt 19, 3) := by decide +kernel
theorem dX3_below_193 : decode cX3_below 193 = .ok (.aload_n 0, 1) := by decide +kernel
theorem dX3_below_194 : decode cX3_below 194 = .ok (.getfield 101, 3) := by decide +kernel
theorem dX3_below_197 : decode cX3_below 197 = .ok (.aload_n 0, 1) := by decide +kernel
theorem dX3_below_198 : decode cX3_below 198 = .ok (.getfield 107, 3) := by decide +kernel
theorem dX3_below_201 : decode cX3_below 201 = .ok (.lcmp, 1) := by decide +kernel
theorem dX3_below_202 : decode cX3_below 202 = .ok (.ifCond .gt 7, 3) := by decide +kernel
theorem dX3_below_205 : decode cX3_below 205 = .ok (.iconst 1, 1) := by decide +kernel
theorem dX3_below_206 : decode cX3_below 206 = .ok (.goto 4, 3) := by decide +kernel
theorem dX3_below_209 : decode cX3_below 209 = .ok (.iconst 0, 1) := by decide +kernel
theorem dX3_below_210 : decode cX3_below 210 = .ok (.ireturn, 1) := by decide +kernel
theorem dX3_opposite_0 : decode cX3_opposite 0 = .ok (.iload_n 0, 1) := by decide +kernel
theorem dX3_opposite_1 : decode cX3_opposite 1 = .ok (.tableswitch 72 0 8 #[51, 53, 55, 57, 59, 61, 63, 66, 69], 51) := by decide +kernel
theorem dX3_opposite_52 : decode cX3_opposite 52 = .ok (.iconst 1, 1) := by decide +kernel
theorem dX3_opposite_53 : decode cX3_opposite 53 = .ok (.ireturn, 1) := by decide +kernel
theorem dX3_opposite_54 : decode cX3_opposite 54 = .ok (.iconst 0, 1) := by decide +kernel
theorem dX3_opposite_55 : decode cX3_opposite 55 = .ok (.ireturn, 1) := by decide +kernel
theorem dX3_opposite_56 : decode cX3_opposite 56 = .ok (.iconst 5, 1) := by decide +kernel
theorem dX3_opposite_57 : decode cX3_opposite 57 = .ok (.ireturn, 1) := by decide +kernel
theorem dX3_opposite_58 : decode cX3_opposite 58 = .ok (.iconst 4, 1) := by decide +kernel
theorem dX3_opposite_59 : decode cX3_opposite 59 = .ok (.ireturn, 1) := by decide +kernel
theorem dX3_opposite_60 : decode cX3_opposite 60 = .ok (.iconst 3, 1) := by decide +kernel
theorem dX3_opposite_61 : decode cX3_opposite 61 = .ok (.ireturn, 1) := by decide +kernel
theorem dX3_opposite_62 : decode cX3_opposite 62 = .ok (.iconst 2, 1) := by decide +kernel
theorem dX3_opposite_63 : decode cX3_opposite 63 = .ok (.ireturn, 1) := by decide +kernel
theorem dX3_opposite_64 : decode cX3_opposite 64 = .ok (.bipush 9, 2) := by decide +kernel
theorem dX3_opposite_66 : decode cX3_opposite 66 = .ok (.ireturn, 1) := by decide +kernel
theorem dX3_opposite_67 : decode cX3_opposite 67 = .ok (.bipush 8, 2) := by decide +kernel
theorem dX3_opposite_69 : decode cX3_opposite 69 = .ok (.ireturn, 1) := by decide +kernel
theorem dX3_opposite_70 : decode cX3_opposite 70 = .ok (.bipush 7, 2) := by decide +kernel
theorem dX3_opposite_72 : decode cX3_opposite 72 = .ok (.ireturn, 1) := by decide +kernel
theorem dX3_opposite_73 : decode cX3_opposite 73 = .ok (.iload_n 0, 1) := by decide +kernel
theorem dX3_opposite_74 : decode cX3_opposite 74 = .ok (.bipush 9, 2) := by decide +kernel
theorem dX3_opposite_76 : decode cX3_opposite 76 = .ok (.if_icmp .ne 8, 3) := by decide +kernel
theorem dX3_opposite_79 : decode cX3_opposite 79 = .ok (.bipush 6, 2) := by decide +kernel
theorem dX3_opposite_81 : decode cX3_opposite 81 = .ok (.goto 4, 3) := by decide +kernel
theorem dX3_opposite_84 : decode cX3_opposite 84 = .ok (.iconst (-1), 1) := by decide +kernel
theorem dX3_opposite_85 : decode cX3_opposite 85 = .ok (.ireturn, 1) := by decide +kernel
set_option maxRecDepth 20000 in
theorem ggX3_put_X3_isRange : GoodIn wsX3_put wsX3_isRange := goodIn_r _ [7] (by decide +kernel) (by decide +kernel)
set_option maxRecDepth 20000 in
theorem gX3_put_X3_isRange : GoodIn wsX3_put (va_wsS RX3 120 yX3_isRange wsX3_isRange) := goodIn_app (goodIn_of _ (by decide +kernel)) ggX3_put_X3_isRange
theorem dX3_put_0 : decode cX3_put 0 = .ok (.aload_n 0, 1) := by decide +kernel
theorem dX3_put_1 : decode cX3_put 1 = .ok (.iload_n 1, 1) := by decide +kernel
theorem dX3_put_2 : decode cX3_put 2 = .ok (.invokestatic 120, 3) := by decide +kernel
theorem dX3_put_5 : decode cX3_put 5 = .ok (.ifCond .eq 14, 3) := by decide +kernel
theorem dX3_put_8 : decode cX3_put 8 = .ok (.lload_n 2, 1) := by decide +kernel
theorem dX3_put_9 : decode cX3_put 9 = .ok (.lload 4, 2) := by decide +kernel
theorem dX3_put_11 : decode cX3_put 11 = .ok (.lcmp, 1) := by decide +kernel
theorem dX3_put_12 : decode cX3_put 12 = .ok (.ifCond .gt 7, 3) := by decide +kernel
theorem dX3_put_15 : decode cX3_put 15 = .ok (.iconst 0, 1) := by decide +kernel
theorem dX3_put_16 : decode cX3_put 16 = .ok (.goto 4, 3) := by decide +kernel
theorem dX3_put_19 : decode cX3_put 19 = .ok (.iconst 1, 1) := by decide +kernel
theorem dX3_put_20 : decode cX3_put 20 = .ok (.putfield 18, 3) := by decide +kernel
theorem dX3_put_23 : decode cX3_put 23 = .ok (.aload_n 0, 1) := by decide +kernel
theorem dX3_put_24 : decode cX3_put 24 = .ok (.getfield 18, 3) := by decide +kernel
theorem dX3_put_27 : decode cX3_put 27 = .ok (.ifCond .le 4, 3) := by decide +kernel
theorem dX3_put_30 : decode cX3_put 30 = .ok (.return_, 1) := by decide +kernel
theorem dX3_put_31 : decode cX3_put 31 = .ok (.aload_n 0, 1) := by decide +kernel
theorem dX3_put_32 : decode cX3_put 32 = .ok (.getfield 9, 3) := by decide +kernel
theorem dX3_put_35 : decode cX3_put 35 = .ok (.iload_n 1, 1) := by decide +kernel
theorem dX3_put_36 : decode cX3_put 36 = .ok (.lload_n 2, 1) := by decide +kernel
theorem dX3_put_37 : decode cX3_put 37 = .ok (.lastore, 1) := by decide +kernel
theorem dX3_put_38 : decode cX3_put 38 = .ok (.aload_n 0, 1) := by decide +kernel
theorem dX3_put_39 : decode cX3_put 39 = .ok (.getfield 15, 3) := by decide +kernel
theorem dX3_put_42 : decode cX3_put 42 = .ok (.iload_n 1, 1) := by decide +kernel
theorem dX3_put_43 : decode cX3_put 43 = .ok (.lload 4, 2) := by decide +kernel
theorem dX3_put_45 : decode cX3_put 45 = .ok (.lastore, 1) := by decide +kernel
theorem dX3_put_46 : decode cX3_put 46 = .ok (.return_, 1) := by decide +kernel
set_option maxRecDepth 20000 in
theorem ggX3_work_X3_isRange : GoodIn wsX3_work wsX3_isRange := goodIn_r _ [10] (by decide +kernel) (by decide +kernel)
set_option maxRecDepth 20000 in
theorem gX3_work_X3_isRange : GoodIn wsX3_work (va_wsS RX3 120 yX3_isRange wsX3_isRange) := goodIn_app (goodIn_of _ (by decide +kernel)) ggX3_work_X3_isRange
set_option maxRecDepth 20000 in
theorem ggX3_work_X3_reckon : GoodIn wsX3_work wsX3_reckon := goodIn_r _ [13, 6, 14, 15, 11, 12, 9, 16, 17, 18, 19, 20, 21, 22, 23] (by decide +kernel) (by decide +kernel)
set_option maxRecDepth 20000 in
theorem gX3_work_X3_reckon : GoodIn wsX3_work (va_wsS RX3 26 yX3_reckon wsX3_reckon) := goodIn_app (goodIn_of _ (by decide +kernel)) ggX3_work_X3_reckon
set_option maxRecDepth 20000 in
theorem ggX3_work_X3_range : GoodIn wsX3_work wsX3_range := goodIn_r _ [27, 28, 29, 30, 31, 32, 33, 34, 35, 36, 37, 38, 9, 39, 4, 5, 40, 41, 42, 43, 44, 45, 46, 47, 48, 49, 50, 51, 52, 53, 54, 55, 56, 57, 58, 59, 60, 61, 62, 63, 64, 65, 66, 67, 68, 69, 70, 71, 18, 72, 73, 74, 75, 76, 77, 82, 83, 84, 85, 86, 87, 88, 89, 90, 91] (by decide +kernel) (by decide +kernel)
set_option maxRecDepth 20000 in
theorem gX3_work_X3_range : GoodIn wsX3_work (wsV RX3 124 RX3 yX3_range wsX3_range) := goodIn_app (goodIn_of _ (by decide +kernel)) ggX3_work_X3_range
set_option maxRecDepth 20000 in
theorem ggX3_work_X3_word : GoodIn wsX3_work wsX3_word := goodIn_r _ [81, 6, 36, 37, 38, 9, 39, 4, 5, 82, 83, 84, 85, 86, 87, 88, 89, 90, 91] (by decide +kernel) (by decide +kernel)
set_option maxRecDepth 20000 in
theorem gX3_work_X3_word : GoodIn wsX3_work (wsV RX3 128 RX3 yX3_word wsX3_word) := goodIn_app (goodIn_of _ (by decide +kernel)) ggX3_work_X3_word
set_option maxRecDepth 20000 in
theorem ggX3_work_X3_between : GoodIn wsX3_work wsX3_between := goodIn_r _ [39, 4, 5, 82, 83, 84, 85, 86, 87, 88, 89, 90, 91] (by decide +kernel) (by decide +kernel)
set_option maxRecDepth 20000 in
theorem gX3_work_X3_between : GoodIn wsX3_work (wsV RX3 77 RX3 yX3_between wsX3_between) := goodIn_app (goodIn_of _ (by decide +kernel)) ggX3_work_X3_between
theorem dX3_work_0 : decode cX3_work 0 = .ok (.aload_n 0, 1) := by decide +kernel
theorem dX3_work_1 : decode cX3_work 1 = .ok (.iload_n 1, 1) := by decide +kernel
theorem dX3_work_2 : decode cX3_work 2 = .ok (.invokestatic 120, 3) := by decide +kernel
theorem dX3_work_5 : decode cX3_work 5 = .ok (.ifCond .eq 32, 3) := by decide +kernel
theorem dX3_work_8 : decode cX3_work 8 = .ok (.iload_n 3, 1) := by decide +kernel
theorem dX3_work_9 : decode cX3_work 9 = .ok (.invokestatic 120, 3) := by decide +kernel
theorem dX3_work_12 : decode cX3_work 12 = .ok (.ifCond .eq 25, 3) := by decide +kernel
theorem dX3_work_15 : decode cX3_work 15 = .ok (.iload 4, 2) := by decide +kernel
theorem dX3_work_17 : decode cX3_work 17 = .ok (.invokestatic 120, 3) := by decide +kernel
theorem dX3_work_20 : decode cX3_work 20 = .ok (.ifCond .eq 17, 3) := by decide +kernel
theorem dX3_work_23 : decode cX3_work 23 = .ok (.iload_n 2, 1) := by decide +kernel
theorem dX3_work_24 : decode cX3_work 24 = .ok (.ifCond .lt 13, 3) := by decide +kernel
theorem dX3_work_27 : decode cX3_work 27 = .ok (.iload_n 2, 1) := by decide +kernel
theorem dX3_work_28 : decode cX3_work 28 = .ok (.bipush 12, 2) := by decide +kernel
theorem dX3_work_30 : decode cX3_work 30 = .ok (.if_icmp .gt 7, 3) := by decide +kernel
theorem dX3_work_33 : decode cX3_work 33 = .ok (.iconst 0, 1) := by decide +kernel
theorem dX3_work_34 : decode cX3_work 34 = .ok (.goto 4, 3) := by decide +kernel
theorem dX3_work_37 : decode cX3_work 37 = .ok (.iconst 1, 1) := by decide +kernel
theorem dX3_work_38 : decode cX3_work 38 = .ok (.putfield 18, 3) := by decide +kernel
theorem dX3_work_41 : decode cX3_work 41 = .ok (.aload_n 0, 1) := by decide +kernel
theorem dX3_work_42 : decode cX3_work 42 = .ok (.getfield 18, 3) := by decide +kernel
theorem dX3_work_45 : decode cX3_work 45 = .ok (.ifCond .le 4, 3) := by decide +kernel
theorem dX3_work_48 : decode cX3_work 48 = .ok (.return_, 1) := by decide +kernel
theorem dX3_work_49 : decode cX3_work 49 = .ok (.aload_n 0, 1) := by decide +kernel
theorem dX3_work_50 : decode cX3_work 50 = .ok (.getfield 9, 3) := by decide +kernel
theorem dX3_work_53 : decode cX3_work 53 = .ok (.iload_n 3, 1) := by decide +kernel
theorem dX3_work_54 : decode cX3_work 54 = .ok (.laload, 1) := by decide +kernel
theorem dX3_work_55 : decode cX3_work 55 = .ok (.lstore 6, 2) := by decide +kernel
theorem dX3_work_57 : decode cX3_work 57 = .ok (.aload_n 0, 1) := by decide +kernel
theorem dX3_work_58 : decode cX3_work 58 = .ok (.getfield 15, 3) := by decide +kernel
theorem dX3_work_61 : decode cX3_work 61 = .ok (.iload_n 3, 1) := by decide +kernel
theorem dX3_work_62 : decode cX3_work 62 = .ok (.laload, 1) := by decide +kernel
theorem dX3_work_63 : decode cX3_work 63 = .ok (.lstore 8, 2) := by decide +kernel
theorem dX3_work_65 : decode cX3_work 65 = .ok (.aload_n 0, 1) := by decide +kernel
theorem dX3_work_66 : decode cX3_work 66 = .ok (.getfield 9, 3) := by decide +kernel
theorem dX3_work_69 : decode cX3_work 69 = .ok (.iload 4, 2) := by decide +kernel
theorem dX3_work_71 : decode cX3_work 71 = .ok (.laload, 1) := by decide +kernel
theorem dX3_work_72 : decode cX3_work 72 = .ok (.lstore 10, 2) := by decide +kernel
theorem dX3_work_74 : decode cX3_work 74 = .ok (.aload_n 0, 1) := by decide +kernel
theorem dX3_work_75 : decode cX3_work 75 = .ok (.getfield 15, 3) := by decide +kernel
theorem dX3_work_78 : decode cX3_work 78 = .ok (.iload 4, 2) := by decide +kernel
theorem dX3_work_80 : decode cX3_work 80 = .ok (.laload, 1) := by decide +kernel
theorem dX3_work_81 : decode cX3_work 81 = .ok (.lstore 12, 2) := by decide +kernel
theorem dX3_work_83 : decode cX3_work 83 = .ok (.lload 6, 2) := by decide +kernel
theorem dX3_work_85 : decode cX3_work 85 = .ok (.lload 8, 2) := by decide +kernel
theorem dX3_work_87 : decode cX3_work 87 = .ok (.lcmp, 1) := by decide +kernel
theorem dX3_work_88 : decode cX3_work 88 = .ok (.ifCond .eq 7, 3) := by decide +kernel
theorem dX3_work_91 : decode cX3_work 91 = .ok (.iload_n 2, 1) := by decide +kernel
theorem dX3_work_92 : decode cX3_work 92 = .ok (.ifCond .ne 21, 3) := by decide +kernel
theorem dX3_work_95 : decode cX3_work 95 = .ok (.lload 10, 2) := by decide +kernel
theorem dX3_work_97 : decode cX3_work 97 = .ok (.lload 12, 2) := by decide +kernel
theorem dX3_work_99 : decode cX3_work 99 = .ok (.lcmp, 1) := by decide +kernel
theorem dX3_work_100 : decode cX3_work 100 = .ok (.ifCond .eq 9, 3) := by decide +kernel
theorem dX3_work_103 : decode cX3_work 103 = .ok (.iload_n 2, 1) := by decide +kernel
theorem dX3_work_104 : decode cX3_work 104 = .ok (.bipush 12, 2) := by decide +kernel
theorem dX3_work_106 : decode cX3_work 106 = .ok (.if_icmp .ne 7, 3) := by decide +kernel
theorem dX3_work_109 : decode cX3_work 109 = .ok (.iconst 1, 1) := by decide +kernel
theorem dX3_work_110 : decode cX3_work 110 = .ok (.goto 4, 3) := by decide +kernel
theorem dX3_work_113 : decode cX3_work 113 = .ok (.iconst 0, 1) := by decide +kernel
theorem dX3_work_114 : decode cX3_work 114 = .ok (.istore 14, 2) := by decide +kernel
theorem dX3_work_116 : decode cX3_work 116 = .ok (.iload 14, 2) := by decide +kernel
theorem dX3_work_118 : decode cX3_work 118 = .ok (.ifCond .eq 28, 3) := by decide +kernel
theorem dX3_work_121 : decode cX3_work 121 = .ok (.aload_n 0, 1) := by decide +kernel
theorem dX3_work_122 : decode cX3_work 122 = .ok (.iload_n 2, 1) := by decide +kernel
theorem dX3_work_123 : decode cX3_work 123 = .ok (.lload 6, 2) := by decide +kernel
theorem dX3_work_125 : decode cX3_work 125 = .ok (.lload 10, 2) := by decide +kernel
theorem dX3_work_127 : decode cX3_work 127 = .ok (.iload 5, 2) := by decide +kernel
theorem dX3_work_129 : decode cX3_work 129 = .ok (.invokestatic 26, 3) := by decide +kernel
theorem dX3_work_132 : decode cX3_work 132 = .ok (.putfield 41, 3) := by decide +kernel
theorem dX3_work_135 : decode cX3_work 135 = .ok (.aload_n 0, 1) := by decide +kernel
theorem dX3_work_136 : decode cX3_work 136 = .ok (.aload_n 0, 1) := by decide +kernel
theorem dX3_work_137 : decode cX3_work 137 = .ok (.getfield 41, 3) := by decide +kernel
theorem dX3_work_140 : decode cX3_work 140 = .ok (.putfield 47, 3) := by decide +kernel
theorem dX3_work_143 : decode cX3_work 143 = .ok (.goto 108, 3) := by decide +kernel
theorem dX3_work_146 : decode cX3_work 146 = .ok (.iload 5, 2) := by decide +kernel
theorem dX3_work_148 : decode cX3_work 148 = .ok (.ifCond .ne 21, 3) := by decide +kernel
theorem dX3_work_151 : decode cX3_work 151 = .ok (.aload_n 0, 1) := by decide +kernel
theorem dX3_work_152 : decode cX3_work 152 = .ok (.iload_n 2, 1) := by decide +kernel
theorem dX3_work_153 : decode cX3_work 153 = .ok (.lload 6, 2) := by decide +kernel
theorem dX3_work_155 : decode cX3_work 155 = .ok (.lload 8, 2) := by decide +kernel
theorem dX3_work_157 : decode cX3_work 157 = .ok (.lload 10, 2) := by decide +kernel
theorem dX3_work_159 : decode cX3_work 159 = .ok (.lload 12, 2) := by decide +kernel
theorem dX3_work_161 : decode cX3_work 161 = .ok (.bipush 63, 2) := by decide +kernel
theorem dX3_work_163 : decode cX3_work 163 = .ok (.invokevirtual 124, 3) := by decide +kernel
theorem dX3_work_166 : decode cX3_work 166 = .ok (.goto 85, 3) := by decide +kernel
theorem dX3_work_169 : decode cX3_work 169 = .ok (.aload_n 0, 1) := by decide +kernel
theorem dX3_work_170 : decode cX3_work 170 = .ok (.lload 6, 2) := by decide +kernel
theorem dX3_work_172 : decode cX3_work 172 = .ok (.lload 8, 2) := by decide +kernel
theorem dX3_work_174 : decode cX3_work 174 = .ok (.invokevirtual 128, 3) := by decide +kernel
theorem dX3_work_177 : decode cX3_work 177 = .ok (.aload_n 0, 1) := by decide +kernel
theorem dX3_work_178 : decode cX3_work 178 = .ok (.getfield 41, 3) := by decide +kernel
theorem dX3_work_181 : decode cX3_work 181 = .ok (.lstore 6, 2) := by decide +kernel
theorem dX3_work_183 : decode cX3_work 183 = .ok (.aload_n 0, 1) := by decide +kernel
theorem dX3_work_184 : decode cX3_work 184 = .ok (.getfield 47, 3) := by decide +kernel
theorem dX3_work_187 : decode cX3_work 187 = .ok (.lstore 8, 2) := by decide +kernel
theorem dX3_work_189 : decode cX3_work 189 = .ok (.aload_n 0, 1) := by decide +kernel
theorem dX3_work_190 : decode cX3_work 190 = .ok (.lload 10, 2) := by decide +kernel
theorem dX3_work_192 : decode cX3_work 192 = .ok (.lload 12, 2) := by decide +kernel
theorem dX3_work_194 : decode cX3_work 194 = .ok (.invokevirtual 128, 3) := by decide +kernel
theorem dX3_work_197 : decode cX3_work 197 = .ok (.iload_n 2, 1) := by decide +kernel
theorem dX3_work_198 : decode cX3_work 198 = .ok (.bipush 11, 2) := by decide +kernel
theorem dX3_work_200 : decode cX3_work 200 = .ok (.if_icmp .eq 9, 3) := by decide +kernel
theorem dX3_work_203 : decode cX3_work 203 = .ok (.iload_n 2, 1) := by decide +kernel
theorem dX3_work_204 : decode cX3_work 204 = .ok (.bipush 12, 2) := by decide +kernel
theorem dX3_work_206 : decode cX3_work 206 = .ok (.if_icmp .ne 14, 3) := by decide +kernel
theorem dX3_work_209 : decode cX3_work 209 = .ok (.aload_n 0, 1) := by decide +kernel
theorem dX3_work_210 : decode cX3_work 210 = .ok (.lconst 0, 1) := by decide +kernel
theorem dX3_work_211 : decode cX3_work 211 = .ok (.ldc2_w 22, 3) := by decide +kernel
theorem dX3_work_214 : decode cX3_work 214 = .ok (.invokevirtual 77, 3) := by decide +kernel
theorem dX3_work_217 : decode cX3_work 217 = .ok (.goto 22, 3) := by decide +kernel
theorem dX3_work_220 : decode cX3_work 220 = .ok (.aload_n 0, 1) := by decide +kernel
theorem dX3_work_221 : decode cX3_work 221 = .ok (.iload_n 2, 1) := by decide +kernel
theorem dX3_work_222 : decode cX3_work 222 = .ok (.lload 6, 2) := by decide +kernel
theorem dX3_work_224 : decode cX3_work 224 = .ok (.lload 8, 2) := by decide +kernel
theorem dX3_work_226 : decode cX3_work 226 = .ok (.aload_n 0, 1) := by decide +kernel
theorem dX3_work_227 : decode cX3_work 227 = .ok (.getfield 41, 3) := by decide +kernel
theorem dX3_work_230 : decode cX3_work 230 = .ok (.aload_n 0, 1) := by decide +kernel
theorem dX3_work_231 : decode cX3_work 231 = .ok (.getfield 47, 3) := by decide +kernel
theorem dX3_work_234 : decode cX3_work 234 = .ok (.bipush 31, 2) := by decide +kernel
theorem dX3_work_236 : decode cX3_work 236 = .ok (.invokevirtual 124, 3) := by decide +kernel
theorem dX3_work_239 : decode cX3_work 239 = .ok (.aload_n 0, 1) := by decide +kernel
theorem dX3_work_240 : decode cX3_work 240 = .ok (.aload_n 0, 1) := by decide +kernel
theorem dX3_work_241 : decode cX3_work 241 = .ok (.getfield 41, 3) := by decide +kernel
theorem dX3_work_244 : decode cX3_work 244 = .ok (.aload_n 0, 1) := by decide +kernel
theorem dX3_work_245 : decode cX3_work 245 = .ok (.getfield 47, 3) := by decide +kernel
theorem dX3_work_248 : decode cX3_work 248 = .ok (.invokevirtual 128, 3) := by decide +kernel
theorem dX3_work_251 : decode cX3_work 251 = .ok (.aload_n 0, 1) := by decide +kernel
theorem dX3_work_252 : decode cX3_work 252 = .ok (.getfield 9, 3) := by decide +kernel
theorem dX3_work_255 : decode cX3_work 255 = .ok (.iload_n 1, 1) := by decide +kernel
theorem dX3_work_256 : decode cX3_work 256 = .ok (.aload_n 0, 1) := by decide +kernel
theorem dX3_work_257 : decode cX3_work 257 = .ok (.getfield 41, 3) := by decide +kernel
theorem dX3_work_260 : decode cX3_work 260 = .ok (.lastore, 1) := by decide +kernel
theorem dX3_work_261 : decode cX3_work 261 = .ok (.aload_n 0, 1) := by decide +kernel
theorem dX3_work_262 : decode cX3_work 262 = .ok (.getfield 15, 3) := by decide +kernel
theorem dX3_work_265 : decode cX3_work 265 = .ok (.iload_n 1, 1) := by decide +kernel
theorem dX3_work_266 : decode cX3_work 266 = .ok (.aload_n 0, 1) := by decide +kernel
theorem dX3_work_267 : decode cX3_work 267 = .ok (.getfield 47, 3) := by decide +kernel
theorem dX3_work_270 : decode cX3_work 270 = .ok (.lastore, 1) := by decide +kernel
theorem dX3_work_271 : decode cX3_work 271 = .ok (.return_, 1) := by decide +kernel
set_option maxRecDepth 20000 in
theorem ggX3_exact_X3_no : GoodIn wsX3_exact wsX3_no := goodIn_r _ [6, 1, 21, 22, 23, 24, 25, 26, 27, 28, 29, 30] (by decide +kernel) (by decide +kernel)
set_option maxRecDepth 20000 in
theorem gX3_exact_X3_no : GoodIn wsX3_exact (wsV RX3 131 RX3 yX3_no wsX3_no) := goodIn_app (goodIn_of _ (by decide +kernel)) ggX3_exact_X3_no
set_option maxRecDepth 20000 in
theorem ggX3_exact_X3_reckon : GoodIn wsX3_exact wsX3_reckon := goodIn_r _ [9, 10, 11, 12, 7, 8, 5, 13, 14, 15, 16, 17, 18, 19, 20] (by decide +kernel) (by decide +kernel)
set_option maxRecDepth 20000 in
theorem gX3_exact_X3_reckon : GoodIn wsX3_exact (va_wsS RX3 26 yX3_reckon wsX3_reckon) := goodIn_app (goodIn_of _ (by decide +kernel)) ggX3_exact_X3_reckon
theorem dX3_exact_0 : decode cX3_exact 0 = .ok (.iload_n 1, 1) := by decide +kernel
theorem dX3_exact_1 : decode cX3_exact 1 = .ok (.ifCond .lt 9, 3) := by decide +kernel
theorem dX3_exact_4 : decode cX3_exact 4 = .ok (.iload_n 1, 1) := by decide +kernel
theorem dX3_exact_5 : decode cX3_exact 5 = .ok (.bipush 12, 2) := by decide +kernel
theorem dX3_exact_7 : decode cX3_exact 7 = .ok (.if_icmp .le 10, 3) := by decide +kernel
theorem dX3_exact_10 : decode cX3_exact 10 = .ok (.aload_n 0, 1) := by decide +kernel
theorem dX3_exact_11 : decode cX3_exact 11 = .ok (.iconst 1, 1) := by decide +kernel
theorem dX3_exact_12 : decode cX3_exact 12 = .ok (.invokevirtual 131, 3) := by decide +kernel
theorem dX3_exact_15 : decode cX3_exact 15 = .ok (.i2l, 1) := by decide +kernel
theorem dX3_exact_16 : decode cX3_exact 16 = .ok (.lreturn, 1) := by decide +kernel
theorem dX3_exact_17 : decode cX3_exact 17 = .ok (.aload_n 0, 1) := by decide +kernel
theorem dX3_exact_18 : decode cX3_exact 18 = .ok (.iconst 0, 1) := by decide +kernel
theorem dX3_exact_19 : decode cX3_exact 19 = .ok (.putfield 18, 3) := by decide +kernel
theorem dX3_exact_22 : decode cX3_exact 22 = .ok (.iload_n 1, 1) := by decide +kernel
theorem dX3_exact_23 : decode cX3_exact 23 = .ok (.lload_n 2, 1) := by decide +kernel
theorem dX3_exact_24 : decode cX3_exact 24 = .ok (.lload 4, 2) := by decide +kernel
theorem dX3_exact_26 : decode cX3_exact 26 = .ok (.iload 6, 2) := by decide +kernel
theorem dX3_exact_28 : decode cX3_exact 28 = .ok (.invokestatic 26, 3) := by decide +kernel
theorem dX3_exact_31 : decode cX3_exact 31 = .ok (.lreturn, 1) := by decide +kernel
set_option maxRecDepth 20000 in
theorem ggX3_cut_X3_isRange : GoodIn wsX3_cut wsX3_isRange := goodIn_r _ [11] (by decide +kernel) (by decide +kernel)
set_option maxRecDepth 20000 in
theorem gX3_cut_X3_isRange : GoodIn wsX3_cut (va_wsS RX3 120 yX3_isRange wsX3_isRange) := goodIn_app (goodIn_of _ (by decide +kernel)) ggX3_cut_X3_isRange
set_option maxRecDepth 20000 in
theorem ggX3_cut_X3_no : GoodIn wsX3_cut wsX3_no := goodIn_r _ [15, 1, 55, 56, 57, 58, 59, 60, 61, 62, 63, 64] (by decide +kernel) (by decide +kernel)
set_option maxRecDepth 20000 in
theorem gX3_cut_X3_no : GoodIn wsX3_cut (wsV RX3 131 RX3 yX3_no wsX3_no) := goodIn_app (goodIn_of _ (by decide +kernel)) ggX3_cut_X3_no
set_option maxRecDepth 20000 in
theorem ggX3_cut_X3_holds : GoodIn wsX3_cut wsX3_holds := goodIn_r _ [18, 19, 20, 21, 22, 23, 24, 25, 26] (by decide +kernel) (by decide +kernel)
set_option maxRecDepth 20000 in
theorem gX3_cut_X3_holds : GoodIn wsX3_cut (va_wsS RX3 135 yX3_holds wsX3_holds) := goodIn_app (goodIn_of _ (by decide +kernel)) ggX3_cut_X3_holds
set_option maxRecDepth 20000 in
theorem ggX3_cut_X3_opposite : GoodIn wsX3_cut wsX3_opposite := goodIn_r _ [29] (by decide +kernel) (by decide +kernel)
set_option maxRecDepth 20000 in
theorem gX3_cut_X3_opposite : GoodIn wsX3_cut (va_wsS RX3 139 yX3_opposite wsX3_opposite) := goodIn_app (goodIn_of _ (by decide +kernel)) ggX3_cut_X3_opposite
set_option maxRecDepth 20000 in
theorem ggX3_cut_X3_side : GoodIn wsX3_cut wsX3_side := goodIn_r _ [33, 3, 6, 34, 35, 36, 37, 5, 7, 38, 39, 40, 41, 42, 43, 10, 44, 45, 46, 47, 48, 49, 50, 51, 52, 53, 54, 55, 56, 57, 58, 59, 60, 61, 62, 63, 64] (by decide +kernel) (by decide +kernel)
set_option maxRecDepth 20000 in
theorem gX3_cut_X3_side : GoodIn wsX3_cut (wsV RX3 142 RX3 yX3_side wsX3_side) := goodIn_app (goodIn_of _ (by decide +kernel)) ggX3_cut_X3_side
theorem dX3_cut_0 : decode cX3_cut 0 = .ok (.iload_n 1, 1) := by decide +kernel
theorem dX3_cut_1 : decode cX3_cut 1 = .ok (.ifCond .lt 28, 3) := by decide +kernel
theorem dX3_cut_4 : decode cX3_cut 4 = .ok (.iload_n 1, 1) := by decide +kernel
theorem dX3_cut_5 : decode cX3_cut 5 = .ok (.bipush 10, 2) := by decide +kernel
theorem dX3_cut_7 : decode cX3_cut 7 = .ok (.if_icmp .gt 22, 3) := by decide +kernel
theorem dX3_cut_10 : decode cX3_cut 10 = .ok (.iload_n 2, 1) := by decide +kernel
theorem dX3_cut_11 : decode cX3_cut 11 = .ok (.invokestatic 120, 3) := by decide +kernel
theorem dX3_cut_14 : decode cX3_cut 14 = .ok (.ifCond .eq 15, 3) := by decide +kernel
theorem dX3_cut_17 : decode cX3_cut 17 = .ok (.iload_n 3, 1) := by decide +kernel
theorem dX3_cut_18 : decode cX3_cut 18 = .ok (.invokestatic 120, 3) := by decide +kernel
theorem dX3_cut_21 : decode cX3_cut 21 = .ok (.ifCond .eq 8, 3) := by decide +kernel
theorem dX3_cut_24 : decode cX3_cut 24 = .ok (.iload_n 2, 1) := by decide +kernel
theorem dX3_cut_25 : decode cX3_cut 25 = .ok (.iload_n 3, 1) := by decide +kernel
theorem dX3_cut_26 : decode cX3_cut 26 = .ok (.if_icmp .ne 17, 3) := by decide +kernel
theorem dX3_cut_29 : decode cX3_cut 29 = .ok (.aload_n 0, 1) := by decide +kernel
theorem dX3_cut_30 : decode cX3_cut 30 = .ok (.iconst 1, 1) := by decide +kernel
theorem dX3_cut_31 : decode cX3_cut 31 = .ok (.invokevirtual 131, 3) := by decide +kernel
theorem dX3_cut_34 : decode cX3_cut 34 = .ok (.ifCond .eq 7, 3) := by decide +kernel
theorem dX3_cut_37 : decode cX3_cut 37 = .ok (.iconst 1, 1) := by decide +kernel
theorem dX3_cut_38 : decode cX3_cut 38 = .ok (.goto 4, 3) := by decide +kernel
theorem dX3_cut_41 : decode cX3_cut 41 = .ok (.iconst 0, 1) := by decide +kernel
theorem dX3_cut_42 : decode cX3_cut 42 = .ok (.ireturn, 1) := by decide +kernel
theorem dX3_cut_43 : decode cX3_cut 43 = .ok (.aload_n 0, 1) := by decide +kernel
theorem dX3_cut_44 : decode cX3_cut 44 = .ok (.iconst 0, 1) := by decide +kernel
theorem dX3_cut_45 : decode cX3_cut 45 = .ok (.putfield 18, 3) := by decide +kernel
theorem dX3_cut_48 : decode cX3_cut 48 = .ok (.aload_n 0, 1) := by decide +kernel
theorem dX3_cut_49 : decode cX3_cut 49 = .ok (.aload_n 0, 1) := by decide +kernel
theorem dX3_cut_50 : decode cX3_cut 50 = .ok (.getfield 9, 3) := by decide +kernel
theorem dX3_cut_53 : decode cX3_cut 53 = .ok (.iload_n 2, 1) := by decide +kernel
theorem dX3_cut_54 : decode cX3_cut 54 = .ok (.laload, 1) := by decide +kernel
theorem dX3_cut_55 : decode cX3_cut 55 = .ok (.putfield 98, 3) := by decide +kernel
theorem dX3_cut_58 : decode cX3_cut 58 = .ok (.aload_n 0, 1) := by decide +kernel
theorem dX3_cut_59 : decode cX3_cut 59 = .ok (.aload_n 0, 1) := by decide +kernel
theorem dX3_cut_60 : decode cX3_cut 60 = .ok (.getfield 15, 3) := by decide +kernel
theorem dX3_cut_63 : decode cX3_cut 63 = .ok (.iload_n 2, 1) := by decide +kernel
theorem dX3_cut_64 : decode cX3_cut 64 = .ok (.laload, 1) := by decide +kernel
theorem dX3_cut_65 : decode cX3_cut 65 = .ok (.putfield 104, 3) := by decide +kernel
theorem dX3_cut_68 : decode cX3_cut 68 = .ok (.aload_n 0, 1) := by decide +kernel
theorem dX3_cut_69 : decode cX3_cut 69 = .ok (.aload_n 0, 1) := by decide +kernel
theorem dX3_cut_70 : decode cX3_cut 70 = .ok (.getfield 9, 3) := by decide +kernel
theorem dX3_cut_73 : decode cX3_cut 73 = .ok (.iload_n 3, 1) := by decide +kernel
theorem dX3_cut_74 : decode cX3_cut 74 = .ok (.laload, 1) := by decide +kernel
theorem dX3_cut_75 : decode cX3_cut 75 = .ok (.putfield 101, 3) := by decide +kernel
theorem dX3_cut_78 : decode cX3_cut 78 = .ok (.aload_n 0, 1) := by decide +kernel
theorem dX3_cut_79 : decode cX3_cut 79 = .ok (.aload_n 0, 1) := by decide +kernel
theorem dX3_cut_80 : decode cX3_cut 80 = .ok (.getfield 15, 3) := by decide +kernel
theorem dX3_cut_83 : decode cX3_cut 83 = .ok (.iload_n 3, 1) := by decide +kernel
theorem dX3_cut_84 : decode cX3_cut 84 = .ok (.laload, 1) := by decide +kernel
theorem dX3_cut_85 : decode cX3_cut 85 = .ok (.putfield 107, 3) := by decide +kernel
theorem dX3_cut_88 : decode cX3_cut 88 = .ok (.aload_n 0, 1) := by decide +kernel
theorem dX3_cut_89 : decode cX3_cut 89 = .ok (.getfield 98, 3) := by decide +kernel
theorem dX3_cut_92 : decode cX3_cut 92 = .ok (.aload_n 0, 1) := by decide +kernel
theorem dX3_cut_93 : decode cX3_cut 93 = .ok (.getfield 104, 3) := by decide +kernel
theorem dX3_cut_96 : decode cX3_cut 96 = .ok (.lcmp, 1) := by decide +kernel
theorem dX3_cut_97 : decode cX3_cut 97 = .ok (.ifCond .ne 39, 3) := by decide +kernel
theorem dX3_cut_100 : decode cX3_cut 100 = .ok (.aload_n 0, 1) := by decide +kernel
theorem dX3_cut_101 : decode cX3_cut 101 = .ok (.getfield 101, 3) := by decide +kernel
theorem dX3_cut_104 : decode cX3_cut 104 = .ok (.aload_n 0, 1) := by decide +kernel
theorem dX3_cut_105 : decode cX3_cut 105 = .ok (.getfield 107, 3) := by decide +kernel
theorem dX3_cut_108 : decode cX3_cut 108 = .ok (.lcmp, 1) := by decide +kernel
theorem dX3_cut_109 : decode cX3_cut 109 = .ok (.ifCond .ne 27, 3) := by decide +kernel
theorem dX3_cut_112 : decode cX3_cut 112 = .ok (.iload_n 1, 1) := by decide +kernel
theorem dX3_cut_113 : decode cX3_cut 113 = .ok (.aload_n 0, 1) := by decide +kernel
theorem dX3_cut_114 : decode cX3_cut 114 = .ok (.getfield 98, 3) := by decide +kernel
theorem dX3_cut_117 : decode cX3_cut 117 = .ok (.aload_n 0, 1) := by decide +kernel
theorem dX3_cut_118 : decode cX3_cut 118 = .ok (.getfield 101, 3) := by decide +kernel
theorem dX3_cut_121 : decode cX3_cut 121 = .ok (.iconst 0, 1) := by decide +kernel
theorem dX3_cut_122 : decode cX3_cut 122 = .ok (.invokestatic 135, 3) := by decide +kernel
theorem dX3_cut_125 : decode cX3_cut 125 = .ok (.iload 4, 2) := by decide +kernel
theorem dX3_cut_127 : decode cX3_cut 127 = .ok (.if_icmp .ne 7, 3) := by decide +kernel
theorem dX3_cut_130 : decode cX3_cut 130 = .ok (.iconst 1, 1) := by decide +kernel
theorem dX3_cut_131 : decode cX3_cut 131 = .ok (.goto 4, 3) := by decide +kernel
theorem dX3_cut_134 : decode cX3_cut 134 = .ok (.iconst 0, 1) := by decide +kernel
theorem dX3_cut_135 : decode cX3_cut 135 = .ok (.ireturn, 1) := by decide +kernel
theorem dX3_cut_136 : decode cX3_cut 136 = .ok (.aload_n 0, 1) := by decide +kernel
theorem dX3_cut_137 : decode cX3_cut 137 = .ok (.iload 4, 2) := by decide +kernel
theorem dX3_cut_139 : decode cX3_cut 139 = .ok (.ifCond .eq 7, 3) := by decide +kernel
theorem dX3_cut_142 : decode cX3_cut 142 = .ok (.iload_n 1, 1) := by decide +kernel
theorem dX3_cut_143 : decode cX3_cut 143 = .ok (.goto 7, 3) := by decide +kernel
theorem dX3_cut_146 : decode cX3_cut 146 = .ok (.iload_n 1, 1) := by decide +kernel
theorem dX3_cut_147 : decode cX3_cut 147 = .ok (.invokestatic 139, 3) := by decide +kernel
theorem dX3_cut_150 : decode cX3_cut 150 = .ok (.invokevirtual 142, 3) := by decide +kernel
theorem dX3_cut_153 : decode cX3_cut 153 = .ok (.ifCond .ne 5, 3) := by decide +kernel
theorem dX3_cut_156 : decode cX3_cut 156 = .ok (.iconst 0, 1) := by decide +kernel
theorem dX3_cut_157 : decode cX3_cut 157 = .ok (.ireturn, 1) := by decide +kernel
theorem dX3_cut_158 : decode cX3_cut 158 = .ok (.aload_n 0, 1) := by decide +kernel
theorem dX3_cut_159 : decode cX3_cut 159 = .ok (.getfield 9, 3) := by decide +kernel
theorem dX3_cut_162 : decode cX3_cut 162 = .ok (.iload_n 2, 1) := by decide +kernel
theorem dX3_cut_163 : decode cX3_cut 163 = .ok (.aload_n 0, 1) := by decide +kernel
theorem dX3_cut_164 : decode cX3_cut 164 = .ok (.getfield 98, 3) := by decide +kernel
theorem dX3_cut_167 : decode cX3_cut 167 = .ok (.lastore, 1) := by decide +kernel
theorem dX3_cut_168 : decode cX3_cut 168 = .ok (.aload_n 0, 1) := by decide +kernel
theorem dX3_cut_169 : decode cX3_cut 169 = .ok (.getfield 15, 3) := by decide +kernel
theorem dX3_cut_172 : decode cX3_cut 172 = .ok (.iload_n 2, 1) := by decide +kernel
theorem dX3_cut_173 : decode cX3_cut 173 = .ok (.aload_n 0, 1) := by decide +kernel
theorem dX3_cut_174 : decode cX3_cut 174 = .ok (.getfield 104, 3) := by decide +kernel
theorem dX3_cut_177 : decode cX3_cut 177 = .ok (.lastore, 1) := by decide +kernel
theorem dX3_cut_178 : decode cX3_cut 178 = .ok (.aload_n 0, 1) := by decide +kernel
theorem dX3_cut_179 : decode cX3_cut 179 = .ok (.getfield 9, 3) := by decide +kernel
theorem dX3_cut_182 : decode cX3_cut 182 = .ok (.iload_n 3, 1) := by decide +kernel
theorem dX3_cut_183 : decode cX3_cut 183 = .ok (.aload_n 0, 1) := by decide +kernel
theorem dX3_cut_184 : decode cX3_cut 184 = .ok (.getfield 101, 3) := by decide +kernel
theorem dX3_cut_187 : decode cX3_cut 187 = .ok (.lastore, 1) := by decide +kernel
theorem dX3_cut_188 : decode cX3_cut 188 = .ok (.aload_n 0, 1) := by decide +kernel
theorem dX3_cut_189 : decode cX3_cut 189 = .ok (.getfield 15, 3) := by decide +kernel
theorem dX3_cut_192 : decode cX3_cut 192 = .ok (.iload_n 3, 1) := by decide +kernel
theorem dX3_cut_193 : decode cX3_cut 193 = .ok (.aload_n 0, 1) := by decide +kernel
theorem dX3_cut_194 : decode cX3_cut 194 = .ok (.getfield 107, 3) := by decide +kernel
theorem dX3_cut_197 : decode cX3_cut 197 = .ok (.lastore, 1) := by decide +kernel
theorem dX3_cut_198 : decode cX3_cut 198 = .ok (.iconst 1, 1) := by decide +kernel
theorem dX3_cut_199 : decode cX3_cut 199 = .ok (.ireturn, 1) := by decide +kernel
set_option maxRecDepth 20000 in
theorem ggX3_holds__X3_no : GoodIn wsX3_holds_ wsX3_no := goodIn_r _ [6, 1, 18, 19, 20, 21, 22, 23, 24, 25, 26, 27] (by decide +kernel) (by decide +kernel)
set_option maxRecDepth 20000 in
theorem gX3_holds__X3_no : GoodIn wsX3_holds_ (wsV RX3 131 RX3 yX3_no wsX3_no) := goodIn_app (goodIn_of _ (by decide +kernel)) ggX3_holds__X3_no
set_option maxRecDepth 20000 in
theorem ggX3_holds__X3_holds : GoodIn wsX3_holds_ wsX3_holds := goodIn_r _ [9, 10, 11, 12, 13, 14, 15, 16, 17] (by decide +kernel) (by decide +kernel)
set_option maxRecDepth 20000 in
theorem gX3_holds__X3_holds : GoodIn wsX3_holds_ (va_wsS RX3 135 yX3_holds wsX3_holds) := goodIn_app (goodIn_of _ (by decide +kernel)) ggX3_holds__X3_holds
theorem dX3_holds__0 : decode cX3_holds_ 0 = .ok (.iload_n 1, 1) := by decide +kernel
theorem dX3_holds__1 : decode cX3_holds_ 1 = .ok (.ifCond .lt 9, 3) := by decide +kernel
theorem dX3_holds__4 : decode cX3_holds_ 4 = .ok (.iload_n 1, 1) := by decide +kernel
theorem dX3_holds__5 : decode cX3_holds_ 5 = .ok (.bipush 10, 2) := by decide +kernel
theorem dX3_holds__7 : decode cX3_holds_ 7 = .ok (.if_icmp .le 17, 3) := by decide +kernel
theorem dX3_holds__10 : decode cX3_holds_ 10 = .ok (.aload_n 0, 1) := by decide +kernel
theorem dX3_holds__11 : decode cX3_holds_ 11 = .ok (.iconst 1, 1) := by decide +kernel
theorem dX3_holds__12 : decode cX3_holds_ 12 = .ok (.invokevirtual 131, 3) := by decide +kernel
theorem dX3_holds__15 : decode cX3_holds_ 15 = .ok (.ifCond .eq 7, 3) := by decide +kernel
theorem dX3_holds__18 : decode cX3_holds_ 18 = .ok (.iconst 1, 1) := by decide +kernel
theorem dX3_holds__19 : decode cX3_holds_ 19 = .ok (.goto 4, 3) := by decide +kernel
theorem dX3_holds__22 : decode cX3_holds_ 22 = .ok (.iconst 0, 1) := by decide +kernel
theorem dX3_holds__23 : decode cX3_holds_ 23 = .ok (.ireturn, 1) := by decide +kernel
theorem dX3_holds__24 : decode cX3_holds_ 24 = .ok (.aload_n 0, 1) := by decide +kernel
theorem dX3_holds__25 : decode cX3_holds_ 25 = .ok (.iconst 0, 1) := by decide +kernel
theorem dX3_holds__26 : decode cX3_holds_ 26 = .ok (.putfield 18, 3) := by decide +kernel
theorem dX3_holds__29 : decode cX3_holds_ 29 = .ok (.iload_n 1, 1) := by decide +kernel
theorem dX3_holds__30 : decode cX3_holds_ 30 = .ok (.lload_n 2, 1) := by decide +kernel
theorem dX3_holds__31 : decode cX3_holds_ 31 = .ok (.lload 4, 2) := by decide +kernel
theorem dX3_holds__33 : decode cX3_holds_ 33 = .ok (.iconst 0, 1) := by decide +kernel
theorem dX3_holds__34 : decode cX3_holds_ 34 = .ok (.invokestatic 135, 3) := by decide +kernel
theorem dX3_holds__37 : decode cX3_holds_ 37 = .ok (.ireturn, 1) := by decide +kernel
set_option maxRecDepth 20000 in
theorem ggX3_low_X3_isRange : GoodIn wsX3_low wsX3_isRange := goodIn_r _ [6] (by decide +kernel) (by decide +kernel)
set_option maxRecDepth 20000 in
theorem gX3_low_X3_isRange : GoodIn wsX3_low (va_wsS RX3 120 yX3_isRange wsX3_isRange) := goodIn_app (goodIn_of _ (by decide +kernel)) ggX3_low_X3_isRange
set_option maxRecDepth 20000 in
theorem ggX3_low_X3_no : GoodIn wsX3_low wsX3_no := goodIn_r _ [10, 1, 11, 12, 13, 14, 15, 16, 17, 18, 19, 20] (by decide +kernel) (by decide +kernel)
set_option maxRecDepth 20000 in
theorem gX3_low_X3_no : GoodIn wsX3_low (wsV RX3 131 RX3 yX3_no wsX3_no) := goodIn_app (goodIn_of _ (by decide +kernel)) ggX3_low_X3_no
theorem dX3_low_0 : decode cX3_low 0 = .ok (.iload_n 1, 1) := by decide +kernel
theorem dX3_low_1 : decode cX3_low 1 = .ok (.invokestatic 120, 3) := by decide +kernel
theorem dX3_low_4 : decode cX3_low 4 = .ok (.ifCond .ne 10, 3) := by decide +kernel
theorem dX3_low_7 : decode cX3_low 7 = .ok (.aload_n 0, 1) := by decide +kernel
theorem dX3_low_8 : decode cX3_low 8 = .ok (.iconst 1, 1) := by decide +kernel
theorem dX3_low_9 : decode cX3_low 9 = .ok (.invokevirtual 131, 3) := by decide +kernel
theorem dX3_low_12 : decode cX3_low 12 = .ok (.i2l, 1) := by decide +kernel
theorem dX3_low_13 : decode cX3_low 13 = .ok (.lreturn, 1) := by decide +kernel
theorem dX3_low_14 : decode cX3_low 14 = .ok (.aload_n 0, 1) := by decide +kernel
theorem dX3_low_15 : decode cX3_low 15 = .ok (.iconst 0, 1) := by decide +kernel
theorem dX3_low_16 : decode cX3_low 16 = .ok (.putfield 18, 3) := by decide +kernel
theorem dX3_low_19 : decode cX3_low 19 = .ok (.aload_n 0, 1) := by decide +kernel
theorem dX3_low_20 : decode cX3_low 20 = .ok (.getfield 9, 3) := by decide +kernel
theorem dX3_low_23 : decode cX3_low 23 = .ok (.iload_n 1, 1) := by decide +kernel
theorem dX3_low_24 : decode cX3_low 24 = .ok (.laload, 1) := by decide +kernel
theorem dX3_low_25 : decode cX3_low 25 = .ok (.lreturn, 1) := by decide +kernel
set_option maxRecDepth 20000 in
theorem ggX3_high_X3_isRange : GoodIn wsX3_high wsX3_isRange := goodIn_r _ [6] (by decide +kernel) (by decide +kernel)
set_option maxRecDepth 20000 in
theorem gX3_high_X3_isRange : GoodIn wsX3_high (va_wsS RX3 120 yX3_isRange wsX3_isRange) := goodIn_app (goodIn_of _ (by decide +kernel)) ggX3_high_X3_isRange
set_option maxRecDepth 20000 in
theorem ggX3_high_X3_no : GoodIn wsX3_high wsX3_no := goodIn_r _ [10, 1, 11, 12, 13, 14, 15, 16, 17, 18, 19, 20] (by decide +kernel) (by decide +kernel)
set_option maxRecDepth 20000 in
theorem gX3_high_X3_no : GoodIn wsX3_high (wsV RX3 131 RX3 yX3_no wsX3_no) := goodIn_app (goodIn_of _ (by decide +kernel)) ggX3_high_X3_no
theorem dX3_high_0 : decode cX3_high 0 = .ok (.iload_n 1, 1) := by decide +kernel
theorem dX3_high_1 : decode cX3_high 1 = .ok (.invokestatic 120, 3) := by decide +kernel
theorem dX3_high_4 : decode cX3_high 4 = .ok (.ifCond .ne 10, 3) := by decide +kernel
theorem dX3_high_7 : decode cX3_high 7 = .ok (.aload_n 0, 1) := by decide +kernel
theorem dX3_high_8 : decode cX3_high 8 = .ok (.iconst 1, 1) := by decide +kernel
theorem dX3_high_9 : decode cX3_high 9 = .ok (.invokevirtual 131, 3) := by decide +kernel
theorem dX3_high_12 : decode cX3_high 12 = .ok (.i2l, 1) := by decide +kernel
theorem dX3_high_13 : decode cX3_high 13 = .ok (.lreturn, 1) := by decide +kernel
theorem dX3_high_14 : decode cX3_high 14 = .ok (.aload_n 0, 1) := by decide +kernel
theorem dX3_high_15 : decode cX3_high 15 = .ok (.iconst 0, 1) := by decide +kernel
theorem dX3_high_16 : decode cX3_high 16 = .ok (.putfield 18, 3) := by decide +kernel
theorem dX3_high_19 : decode cX3_high 19 = .ok (.aload_n 0, 1) := by decide +kernel
theorem dX3_high_20 : decode cX3_high 20 = .ok (.getfield 15, 3) := by decide +kernel
theorem dX3_high_23 : decode cX3_high 23 = .ok (.iload_n 1, 1) := by decide +kernel
theorem dX3_high_24 : decode cX3_high 24 = .ok (.laload, 1) := by decide +kernel
theorem dX3_high_25 : decode cX3_high 25 = .ok (.lreturn, 1) := by decide +kernel
