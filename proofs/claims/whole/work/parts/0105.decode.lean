theorem d_Model_period_145 : decode prog_7_method_30_code 145 = .ok (.getfield 63, 3) := by decide +kernel
theorem d_Model_period_148 : decode prog_7_method_30_code 148 = .ok (.iload_n 3, 1) := by decide +kernel
theorem d_Model_period_149 : decode prog_7_method_30_code 149 = .ok (.iaload, 1) := by decide +kernel
theorem d_Model_period_150 : decode prog_7_method_30_code 150 = .ok (.ifCond .lt 33, 3) := by decide +kernel
theorem d_Model_period_153 : decode prog_7_method_30_code 153 = .ok (.iload 4, 2) := by decide +kernel
theorem d_Model_period_155 : decode prog_7_method_30_code 155 = .ok (.iload_n 2, 1) := by decide +kernel
theorem d_Model_period_156 : decode prog_7_method_30_code 156 = .ok (.if_icmp .ne 27, 3) := by decide +kernel
theorem d_Model_period_159 : decode prog_7_method_30_code 159 = .ok (.iload_n 1, 1) := by decide +kernel
theorem d_Model_period_160 : decode prog_7_method_30_code 160 = .ok (.ifCond .eq 18, 3) := by decide +kernel
theorem d_Model_period_163 : decode prog_7_method_30_code 163 = .ok (.aload_n 0, 1) := by decide +kernel
theorem d_Model_period_164 : decode prog_7_method_30_code 164 = .ok (.getfield 57, 3) := by decide +kernel
theorem d_Model_period_167 : decode prog_7_method_30_code 167 = .ok (.iload_n 3, 1) := by decide +kernel
theorem d_Model_period_168 : decode prog_7_method_30_code 168 = .ok (.aload_n 0, 1) := by decide +kernel
theorem d_Model_period_169 : decode prog_7_method_30_code 169 = .ok (.getfield 63, 3) := by decide +kernel
theorem d_Model_period_172 : decode prog_7_method_30_code 172 = .ok (.iload_n 3, 1) := by decide +kernel
theorem d_Model_period_173 : decode prog_7_method_30_code 173 = .ok (.iaload, 1) := by decide +kernel
theorem d_Model_period_174 : decode prog_7_method_30_code 174 = .ok (.iastore, 1) := by decide +kernel
theorem d_Model_period_175 : decode prog_7_method_30_code 175 = .ok (.goto 8, 3) := by decide +kernel
theorem d_Model_period_178 : decode prog_7_method_30_code 178 = .ok (.aload_n 0, 1) := by decide +kernel
theorem d_Model_period_179 : decode prog_7_method_30_code 179 = .ok (.iload_n 3, 1) := by decide +kernel
theorem d_Model_period_180 : decode prog_7_method_30_code 180 = .ok (.invokevirtual 170, 3) := by decide +kernel
theorem d_Model_period_183 : decode prog_7_method_30_code 183 = .ok (.iinc 3 1, 3) := by decide +kernel
theorem d_Model_period_186 : decode prog_7_method_30_code 186 = .ok (.goto (-102), 3) := by decide +kernel
theorem d_Model_period_189 : decode prog_7_method_30_code 189 = .ok (.iinc 2 1, 3) := by decide +kernel
theorem d_Model_period_192 : decode prog_7_method_30_code 192 = .ok (.goto (-115), 3) := by decide +kernel
theorem d_Model_period_195 : decode prog_7_method_30_code 195 = .ok (.iconst 0, 1) := by decide +kernel
theorem d_Model_period_196 : decode prog_7_method_30_code 196 = .ok (.istore_n 2, 1) := by decide +kernel
theorem d_Model_period_197 : decode prog_7_method_30_code 197 = .ok (.iconst 0, 1) := by decide +kernel
theorem d_Model_period_198 : decode prog_7_method_30_code 198 = .ok (.istore_n 3, 1) := by decide +kernel
theorem d_Model_period_199 : decode prog_7_method_30_code 199 = .ok (.iload_n 3, 1) := by decide +kernel
theorem d_Model_period_200 : decode prog_7_method_30_code 200 = .ok (.iconst 4, 1) := by decide +kernel
theorem d_Model_period_201 : decode prog_7_method_30_code 201 = .ok (.if_icmp .ge 76, 3) := by decide +kernel
theorem d_Model_period_204 : decode prog_7_method_30_code 204 = .ok (.aload_n 0, 1) := by decide +kernel
theorem d_Model_period_205 : decode prog_7_method_30_code 205 = .ok (.getfield 57, 3) := by decide +kernel
theorem d_Model_period_208 : decode prog_7_method_30_code 208 = .ok (.iload_n 3, 1) := by decide +kernel
theorem d_Model_period_209 : decode prog_7_method_30_code 209 = .ok (.iaload, 1) := by decide +kernel
theorem d_Model_period_210 : decode prog_7_method_30_code 210 = .ok (.aload_n 0, 1) := by decide +kernel
theorem d_Model_period_211 : decode prog_7_method_30_code 211 = .ok (.getfield 63, 3) := by decide +kernel
theorem d_Model_period_214 : decode prog_7_method_30_code 214 = .ok (.iload_n 3, 1) := by decide +kernel
theorem d_Model_period_215 : decode prog_7_method_30_code 215 = .ok (.iaload, 1) := by decide +kernel
theorem d_Model_period_216 : decode prog_7_method_30_code 216 = .ok (.if_icmp .ge 7, 3) := by decide +kernel
theorem d_Model_period_219 : decode prog_7_method_30_code 219 = .ok (.iconst 1, 1) := by decide +kernel
theorem d_Model_period_220 : decode prog_7_method_30_code 220 = .ok (.goto 4, 3) := by decide +kernel
theorem d_Model_period_223 : decode prog_7_method_30_code 223 = .ok (.iconst 0, 1) := by decide +kernel
theorem d_Model_period_224 : decode prog_7_method_30_code 224 = .ok (.istore 4, 2) := by decide +kernel
theorem d_Model_period_226 : decode prog_7_method_30_code 226 = .ok (.iload 4, 2) := by decide +kernel
theorem d_Model_period_228 : decode prog_7_method_30_code 228 = .ok (.ifCond .eq 11, 3) := by decide +kernel
theorem d_Model_period_231 : decode prog_7_method_30_code 231 = .ok (.iload_n 2, 1) := by decide +kernel
theorem d_Model_period_232 : decode prog_7_method_30_code 232 = .ok (.iconst 1, 1) := by decide +kernel
theorem d_Model_period_233 : decode prog_7_method_30_code 233 = .ok (.iload_n 3, 1) := by decide +kernel
theorem d_Model_period_234 : decode prog_7_method_30_code 234 = .ok (.ishl, 1) := by decide +kernel
theorem d_Model_period_235 : decode prog_7_method_30_code 235 = .ok (.ior, 1) := by decide +kernel
theorem d_Model_period_236 : decode prog_7_method_30_code 236 = .ok (.goto 4, 3) := by decide +kernel
theorem d_Model_period_239 : decode prog_7_method_30_code 239 = .ok (.iload_n 2, 1) := by decide +kernel
theorem d_Model_period_240 : decode prog_7_method_30_code 240 = .ok (.istore_n 2, 1) := by decide +kernel
theorem d_Model_period_241 : decode prog_7_method_30_code 241 = .ok (.aload_n 0, 1) := by decide +kernel
theorem d_Model_period_242 : decode prog_7_method_30_code 242 = .ok (.getfield 69, 3) := by decide +kernel
theorem d_Model_period_245 : decode prog_7_method_30_code 245 = .ok (.iload_n 3, 1) := by decide +kernel
theorem d_Model_period_246 : decode prog_7_method_30_code 246 = .ok (.iload 4, 2) := by decide +kernel
theorem d_Model_period_248 : decode prog_7_method_30_code 248 = .ok (.ifCond .eq 14, 3) := by decide +kernel
theorem d_Model_period_251 : decode prog_7_method_30_code 251 = .ok (.aload_n 0, 1) := by decide +kernel
theorem d_Model_period_252 : decode prog_7_method_30_code 252 = .ok (.getfield 69, 3) := by decide +kernel
theorem d_Model_period_255 : decode prog_7_method_30_code 255 = .ok (.iload_n 3, 1) := by decide +kernel
theorem d_Model_period_256 : decode prog_7_method_30_code 256 = .ok (.iaload, 1) := by decide +kernel
theorem d_Model_period_257 : decode prog_7_method_30_code 257 = .ok (.iconst 1, 1) := by decide +kernel
theorem d_Model_period_258 : decode prog_7_method_30_code 258 = .ok (.iadd, 1) := by decide +kernel
theorem d_Model_period_259 : decode prog_7_method_30_code 259 = .ok (.goto 4, 3) := by decide +kernel
theorem d_Model_period_262 : decode prog_7_method_30_code 262 = .ok (.iconst 0, 1) := by decide +kernel
theorem d_Model_period_263 : decode prog_7_method_30_code 263 = .ok (.iastore, 1) := by decide +kernel
theorem d_Model_period_264 : decode prog_7_method_30_code 264 = .ok (.aload_n 0, 1) := by decide +kernel
theorem d_Model_period_265 : decode prog_7_method_30_code 265 = .ok (.getfield 63, 3) := by decide +kernel
theorem d_Model_period_268 : decode prog_7_method_30_code 268 = .ok (.iload_n 3, 1) := by decide +kernel
theorem d_Model_period_269 : decode prog_7_method_30_code 269 = .ok (.iconst (-1), 1) := by decide +kernel
theorem d_Model_period_270 : decode prog_7_method_30_code 270 = .ok (.iastore, 1) := by decide +kernel
theorem d_Model_period_271 : decode prog_7_method_30_code 271 = .ok (.iinc 3 1, 3) := by decide +kernel
theorem d_Model_period_274 : decode prog_7_method_30_code 274 = .ok (.goto (-75), 3) := by decide +kernel
theorem d_Model_period_277 : decode prog_7_method_30_code 277 = .ok (.aload_n 0, 1) := by decide +kernel
theorem d_Model_period_278 : decode prog_7_method_30_code 278 = .ok (.bipush 8, 2) := by decide +kernel
theorem d_Model_period_280 : decode prog_7_method_30_code 280 = .ok (.putfield 107, 3) := by decide +kernel
theorem d_Model_period_283 : decode prog_7_method_30_code 283 = .ok (.iload_n 2, 1) := by decide +kernel
theorem d_Model_period_284 : decode prog_7_method_30_code 284 = .ok (.ireturn, 1) := by decide +kernel
theorem d_Model_drawn_0 : decode prog_7_method_31_code 0 = .ok (.aload_n 0, 1) := by decide +kernel
theorem d_Model_drawn_1 : decode prog_7_method_31_code 1 = .ok (.getfield 31, 3) := by decide +kernel
theorem d_Model_drawn_4 : decode prog_7_method_31_code 4 = .ok (.aload_n 0, 1) := by decide +kernel
theorem d_Model_drawn_5 : decode prog_7_method_31_code 5 = .ok (.getfield 57, 3) := by decide +kernel
theorem d_Model_drawn_8 : decode prog_7_method_31_code 8 = .ok (.iload_n 1, 1) := by decide +kernel
theorem d_Model_drawn_9 : decode prog_7_method_31_code 9 = .ok (.iaload, 1) := by decide +kernel
theorem d_Model_drawn_10 : decode prog_7_method_31_code 10 = .ok (.iaload, 1) := by decide +kernel
theorem d_Model_drawn_11 : decode prog_7_method_31_code 11 = .ok (.istore_n 2, 1) := by decide +kernel
theorem d_Model_drawn_12 : decode prog_7_method_31_code 12 = .ok (.aload_n 0, 1) := by decide +kernel
theorem d_Model_drawn_13 : decode prog_7_method_31_code 13 = .ok (.getfield 72, 3) := by decide +kernel
theorem d_Model_drawn_16 : decode prog_7_method_31_code 16 = .ok (.iload_n 1, 1) := by decide +kernel
theorem d_Model_drawn_17 : decode prog_7_method_31_code 17 = .ok (.iaload, 1) := by decide +kernel
theorem d_Model_drawn_18 : decode prog_7_method_31_code 18 = .ok (.iload_n 2, 1) := by decide +kernel
theorem d_Model_drawn_19 : decode prog_7_method_31_code 19 = .ok (.if_icmp .ge 12, 3) := by decide +kernel
theorem d_Model_drawn_22 : decode prog_7_method_31_code 22 = .ok (.aload_n 0, 1) := by decide +kernel
theorem d_Model_drawn_23 : decode prog_7_method_31_code 23 = .ok (.getfield 72, 3) := by decide +kernel
theorem d_Model_drawn_26 : decode prog_7_method_31_code 26 = .ok (.iload_n 1, 1) := by decide +kernel
theorem d_Model_drawn_27 : decode prog_7_method_31_code 27 = .ok (.iaload, 1) := by decide +kernel
theorem d_Model_drawn_28 : decode prog_7_method_31_code 28 = .ok (.goto 4, 3) := by decide +kernel
theorem d_Model_drawn_31 : decode prog_7_method_31_code 31 = .ok (.iload_n 2, 1) := by decide +kernel
theorem d_Model_drawn_32 : decode prog_7_method_31_code 32 = .ok (.ireturn, 1) := by decide +kernel
theorem d_Model_tickOnce_0 : decode prog_7_method_32_code 0 = .ok (.aload_n 0, 1) := by decide +kernel
theorem d_Model_tickOnce_1 : decode prog_7_method_32_code 1 = .ok (.invokevirtual 174, 3) := by decide +kernel
theorem d_Model_tickOnce_4 : decode prog_7_method_32_code 4 = .ok (.aload_n 0, 1) := by decide +kernel
theorem d_Model_tickOnce_5 : decode prog_7_method_32_code 5 = .ok (.aload_n 0, 1) := by decide +kernel
theorem d_Model_tickOnce_6 : decode prog_7_method_32_code 6 = .ok (.getfield 38, 3) := by decide +kernel
theorem d_Model_tickOnce_9 : decode prog_7_method_32_code 9 = .ok (.aload_n 0, 1) := by decide +kernel
theorem d_Model_tickOnce_10 : decode prog_7_method_32_code 10 = .ok (.getfield 57, 3) := by decide +kernel
theorem d_Model_tickOnce_13 : decode prog_7_method_32_code 13 = .ok (.invokevirtual 150, 3) := by decide +kernel
theorem d_Model_tickOnce_16 : decode prog_7_method_32_code 16 = .ok (.pop, 1) := by decide +kernel
theorem d_Model_tickOnce_17 : decode prog_7_method_32_code 17 = .ok (.iconst 0, 1) := by decide +kernel
theorem d_Model_tickOnce_18 : decode prog_7_method_32_code 18 = .ok (.istore_n 1, 1) := by decide +kernel
theorem d_Model_tickOnce_19 : decode prog_7_method_32_code 19 = .ok (.iload_n 1, 1) := by decide +kernel
theorem d_Model_tickOnce_20 : decode prog_7_method_32_code 20 = .ok (.bipush 6, 2) := by decide +kernel
theorem d_Model_tickOnce_22 : decode prog_7_method_32_code 22 = .ok (.if_icmp .ge 96, 3) := by decide +kernel
theorem d_Model_tickOnce_25 : decode prog_7_method_32_code 25 = .ok (.aload_n 0, 1) := by decide +kernel
theorem d_Model_tickOnce_26 : decode prog_7_method_32_code 26 = .ok (.getfield 34, 3) := by decide +kernel
theorem d_Model_tickOnce_29 : decode prog_7_method_32_code 29 = .ok (.iload_n 1, 1) := by decide +kernel
theorem d_Model_tickOnce_30 : decode prog_7_method_32_code 30 = .ok (.laload, 1) := by decide +kernel
theorem d_Model_tickOnce_31 : decode prog_7_method_32_code 31 = .ok (.aload_n 0, 1) := by decide +kernel
theorem d_Model_tickOnce_32 : decode prog_7_method_32_code 32 = .ok (.getfield 50, 3) := by decide +kernel
theorem d_Model_tickOnce_35 : decode prog_7_method_32_code 35 = .ok (.iload_n 1, 1) := by decide +kernel
theorem d_Model_tickOnce_36 : decode prog_7_method_32_code 36 = .ok (.iaload, 1) := by decide +kernel
theorem d_Model_tickOnce_37 : decode prog_7_method_32_code 37 = .ok (.i2l, 1) := by decide +kernel
theorem d_Model_tickOnce_38 : decode prog_7_method_32_code 38 = .ok (.ladd, 1) := by decide +kernel
theorem d_Model_tickOnce_39 : decode prog_7_method_32_code 39 = .ok (.lstore_n 2, 1) := by decide +kernel
theorem d_Model_tickOnce_40 : decode prog_7_method_32_code 40 = .ok (.aload_n 0, 1) := by decide +kernel
theorem d_Model_tickOnce_41 : decode prog_7_method_32_code 41 = .ok (.getfield 53, 3) := by decide +kernel
theorem d_Model_tickOnce_44 : decode prog_7_method_32_code 44 = .ok (.iload_n 1, 1) := by decide +kernel
theorem d_Model_tickOnce_45 : decode prog_7_method_32_code 45 = .ok (.baload, 1) := by decide +kernel
theorem d_Model_tickOnce_46 : decode prog_7_method_32_code 46 = .ok (.ifCond .ne 29, 3) := by decide +kernel
theorem d_Model_tickOnce_49 : decode prog_7_method_32_code 49 = .ok (.lload_n 2, 1) := by decide +kernel
theorem d_Model_tickOnce_50 : decode prog_7_method_32_code 50 = .ok (.ldc2_w 177, 3) := by decide +kernel
theorem d_Model_tickOnce_53 : decode prog_7_method_32_code 53 = .ok (.ladd, 1) := by decide +kernel
theorem d_Model_tickOnce_54 : decode prog_7_method_32_code 54 = .ok (.aload_n 0, 1) := by decide +kernel
theorem d_Model_tickOnce_55 : decode prog_7_method_32_code 55 = .ok (.getfield 38, 3) := by decide +kernel
theorem d_Model_tickOnce_58 : decode prog_7_method_32_code 58 = .ok (.iload_n 1, 1) := by decide +kernel
theorem d_Model_tickOnce_59 : decode prog_7_method_32_code 59 = .ok (.laload, 1) := by decide +kernel
theorem d_Model_tickOnce_60 : decode prog_7_method_32_code 60 = .ok (.lcmp, 1) := by decide +kernel
theorem d_Model_tickOnce_61 : decode prog_7_method_32_code 61 = .ok (.ifCond .ge 14, 3) := by decide +kernel
theorem d_Model_tickOnce_64 : decode prog_7_method_32_code 64 = .ok (.aload_n 0, 1) := by decide +kernel
theorem d_Model_tickOnce_65 : decode prog_7_method_32_code 65 = .ok (.getfield 38, 3) := by decide +kernel
theorem d_Model_tickOnce_68 : decode prog_7_method_32_code 68 = .ok (.iload_n 1, 1) := by decide +kernel
theorem d_Model_tickOnce_69 : decode prog_7_method_32_code 69 = .ok (.lload_n 2, 1) := by decide +kernel
theorem d_Model_tickOnce_70 : decode prog_7_method_32_code 70 = .ok (.ldc2_w 177, 3) := by decide +kernel
theorem d_Model_tickOnce_73 : decode prog_7_method_32_code 73 = .ok (.ladd, 1) := by decide +kernel
theorem d_Model_tickOnce_74 : decode prog_7_method_32_code 74 = .ok (.lastore, 1) := by decide +kernel
theorem d_Model_tickOnce_75 : decode prog_7_method_32_code 75 = .ok (.aload_n 0, 1) := by decide +kernel
theorem d_Model_tickOnce_76 : decode prog_7_method_32_code 76 = .ok (.getfield 41, 3) := by decide +kernel
theorem d_Model_tickOnce_79 : decode prog_7_method_32_code 79 = .ok (.iload_n 1, 1) := by decide +kernel
theorem d_Model_tickOnce_80 : decode prog_7_method_32_code 80 = .ok (.aload_n 0, 1) := by decide +kernel
theorem d_Model_tickOnce_81 : decode prog_7_method_32_code 81 = .ok (.getfield 38, 3) := by decide +kernel
theorem d_Model_tickOnce_84 : decode prog_7_method_32_code 84 = .ok (.iload_n 1, 1) := by decide +kernel
theorem d_Model_tickOnce_85 : decode prog_7_method_32_code 85 = .ok (.laload, 1) := by decide +kernel
theorem d_Model_tickOnce_86 : decode prog_7_method_32_code 86 = .ok (.aload_n 0, 1) := by decide +kernel
theorem d_Model_tickOnce_87 : decode prog_7_method_32_code 87 = .ok (.getfield 41, 3) := by decide +kernel
theorem d_Model_tickOnce_90 : decode prog_7_method_32_code 90 = .ok (.iload_n 1, 1) := by decide +kernel
theorem d_Model_tickOnce_91 : decode prog_7_method_32_code 91 = .ok (.laload, 1) := by decide +kernel
theorem d_Model_tickOnce_92 : decode prog_7_method_32_code 92 = .ok (.lcmp, 1) := by decide +kernel
theorem d_Model_tickOnce_93 : decode prog_7_method_32_code 93 = .ok (.ifCond .le 12, 3) := by decide +kernel
theorem d_Model_tickOnce_96 : decode prog_7_method_32_code 96 = .ok (.aload_n 0, 1) := by decide +kernel
theorem d_Model_tickOnce_97 : decode prog_7_method_32_code 97 = .ok (.getfield 38, 3) := by decide +kernel
theorem d_Model_tickOnce_100 : decode prog_7_method_32_code 100 = .ok (.iload_n 1, 1) := by decide +kernel
theorem d_Model_tickOnce_101 : decode prog_7_method_32_code 101 = .ok (.laload, 1) := by decide +kernel
theorem d_Model_tickOnce_102 : decode prog_7_method_32_code 102 = .ok (.goto 9, 3) := by decide +kernel
theorem d_Model_tickOnce_105 : decode prog_7_method_32_code 105 = .ok (.aload_n 0, 1) := by decide +kernel
theorem d_Model_tickOnce_106 : decode prog_7_method_32_code 106 = .ok (.getfield 41, 3) := by decide +kernel
theorem d_Model_tickOnce_109 : decode prog_7_method_32_code 109 = .ok (.iload_n 1, 1) := by decide +kernel
theorem d_Model_tickOnce_110 : decode prog_7_method_32_code 110 = .ok (.laload, 1) := by decide +kernel
theorem d_Model_tickOnce_111 : decode prog_7_method_32_code 111 = .ok (.lastore, 1) := by decide +kernel
theorem d_Model_tickOnce_112 : decode prog_7_method_32_code 112 = .ok (.iinc 1 1, 3) := by decide +kernel
theorem d_Model_tickOnce_115 : decode prog_7_method_32_code 115 = .ok (.goto (-96), 3) := by decide +kernel
theorem d_Model_tickOnce_118 : decode prog_7_method_32_code 118 = .ok (.aload_n 0, 1) := by decide +kernel
theorem d_Model_tickOnce_119 : decode prog_7_method_32_code 119 = .ok (.aload_n 0, 1) := by decide +kernel
theorem d_Model_tickOnce_120 : decode prog_7_method_32_code 120 = .ok (.getfield 107, 3) := by decide +kernel
theorem d_Model_tickOnce_123 : decode prog_7_method_32_code 123 = .ok (.ifCond .le 12, 3) := by decide +kernel
theorem d_Model_tickOnce_126 : decode prog_7_method_32_code 126 = .ok (.aload_n 0, 1) := by decide +kernel
theorem d_Model_tickOnce_127 : decode prog_7_method_32_code 127 = .ok (.getfield 107, 3) := by decide +kernel
theorem d_Model_tickOnce_130 : decode prog_7_method_32_code 130 = .ok (.iconst 1, 1) := by decide +kernel
theorem d_Model_tickOnce_131 : decode prog_7_method_32_code 131 = .ok (.isub, 1) := by decide +kernel
theorem d_Model_tickOnce_132 : decode prog_7_method_32_code 132 = .ok (.goto 4, 3) := by decide +kernel
theorem d_Model_tickOnce_135 : decode prog_7_method_32_code 135 = .ok (.iconst 0, 1) := by decide +kernel
theorem d_Model_tickOnce_136 : decode prog_7_method_32_code 136 = .ok (.putfield 107, 3) := by decide +kernel
theorem d_Model_tickOnce_139 : decode prog_7_method_32_code 139 = .ok (.iconst 0, 1) := by decide +kernel
theorem d_Model_tickOnce_140 : decode prog_7_method_32_code 140 = .ok (.istore_n 1, 1) := by decide +kernel
theorem d_Model_tickOnce_141 : decode prog_7_method_32_code 141 = .ok (.iload_n 1, 1) := by decide +kernel
theorem d_Model_tickOnce_142 : decode prog_7_method_32_code 142 = .ok (.iconst 4, 1) := by decide +kernel
theorem d_Model_tickOnce_143 : decode prog_7_method_32_code 143 = .ok (.if_icmp .ge 23, 3) := by decide +kernel
theorem d_Model_tickOnce_146 : decode prog_7_method_32_code 146 = .ok (.aload_n 0, 1) := by decide +kernel
theorem d_Model_tickOnce_147 : decode prog_7_method_32_code 147 = .ok (.getfield 107, 3) := by decide +kernel
theorem d_Model_tickOnce_150 : decode prog_7_method_32_code 150 = .ok (.ifCond .ne 16, 3) := by decide +kernel
theorem d_Model_tickOnce_153 : decode prog_7_method_32_code 153 = .ok (.aload_n 0, 1) := by decide +kernel
theorem d_Model_tickOnce_154 : decode prog_7_method_32_code 154 = .ok (.getfield 57, 3) := by decide +kernel
theorem d_Model_tickOnce_157 : decode prog_7_method_32_code 157 = .ok (.iload_n 1, 1) := by decide +kernel
theorem d_Model_tickOnce_158 : decode prog_7_method_32_code 158 = .ok (.iconst 0, 1) := by decide +kernel
theorem d_Model_tickOnce_159 : decode prog_7_method_32_code 159 = .ok (.iastore, 1) := by decide +kernel
theorem d_Model_tickOnce_160 : decode prog_7_method_32_code 160 = .ok (.iinc 1 1, 3) := by decide +kernel
theorem d_Model_tickOnce_163 : decode prog_7_method_32_code 163 = .ok (.goto (-22), 3) := by decide +kernel
theorem d_Model_tickOnce_166 : decode prog_7_method_32_code 166 = .ok (.return_, 1) := by decide +kernel
theorem d_Model_tick_0 : decode prog_7_method_33_code 0 = .ok (.aload_n 0, 1) := by decide +kernel
theorem d_Model_tick_1 : decode prog_7_method_33_code 1 = .ok (.iload_n 1, 1) := by decide +kernel
theorem d_Model_tick_2 : decode prog_7_method_33_code 2 = .ok (.iconst 1, 1) := by decide +kernel
theorem d_Model_tick_3 : decode prog_7_method_33_code 3 = .ok (.if_icmp .lt 9, 3) := by decide +kernel
theorem d_Model_tick_6 : decode prog_7_method_33_code 6 = .ok (.iload_n 1, 1) := by decide +kernel
theorem d_Model_tick_7 : decode prog_7_method_33_code 7 = .ok (.bipush 100, 2) := by decide +kernel
theorem d_Model_tick_9 : decode prog_7_method_33_code 9 = .ok (.if_icmp .le 7, 3) := by decide +kernel
theorem d_Model_tick_12 : decode prog_7_method_33_code 12 = .ok (.iconst 1, 1) := by decide +kernel
theorem d_Model_tick_13 : decode prog_7_method_33_code 13 = .ok (.goto 15, 3) := by decide +kernel
theorem d_Model_tick_16 : decode prog_7_method_33_code 16 = .ok (.aload_n 0, 1) := by decide +kernel
theorem d_Model_tick_17 : decode prog_7_method_33_code 17 = .ok (.getfield 82, 3) := by decide +kernel
theorem d_Model_tick_20 : decode prog_7_method_33_code 20 = .ok (.ifCond .ne 7, 3) := by decide +kernel
theorem d_Model_tick_23 : decode prog_7_method_33_code 23 = .ok (.iconst 2, 1) := by decide +kernel
theorem d_Model_tick_24 : decode prog_7_method_33_code 24 = .ok (.goto 4, 3) := by decide +kernel
theorem d_Model_tick_27 : decode prog_7_method_33_code 27 = .ok (.iconst 0, 1) := by decide +kernel
theorem d_Model_tick_28 : decode prog_7_method_33_code 28 = .ok (.putfield 78, 3) := by decide +kernel
theorem d_Model_tick_31 : decode prog_7_method_33_code 31 = .ok (.aload_n 0, 1) := by decide +kernel
theorem d_Model_tick_32 : decode prog_7_method_33_code 32 = .ok (.getfield 78, 3) := by decide +kernel
theorem d_Model_tick_35 : decode prog_7_method_33_code 35 = .ok (.ifCond .le 5, 3) := by decide +kernel
theorem d_Model_tick_38 : decode prog_7_method_33_code 38 = .ok (.iconst 0, 1) := by decide +kernel
theorem d_Model_tick_39 : decode prog_7_method_33_code 39 = .ok (.ireturn, 1) := by decide +kernel
theorem d_Model_tick_40 : decode prog_7_method_33_code 40 = .ok (.iconst 0, 1) := by decide +kernel
theorem d_Model_tick_41 : decode prog_7_method_33_code 41 = .ok (.istore_n 2, 1) := by decide +kernel
theorem d_Model_tick_42 : decode prog_7_method_33_code 42 = .ok (.iconst 0, 1) := by decide +kernel
theorem d_Model_tick_43 : decode prog_7_method_33_code 43 = .ok (.istore_n 3, 1) := by decide +kernel
theorem d_Model_tick_44 : decode prog_7_method_33_code 44 = .ok (.iload_n 3, 1) := by decide +kernel
theorem d_Model_tick_45 : decode prog_7_method_33_code 45 = .ok (.iload_n 1, 1) := by decide +kernel
theorem d_Model_tick_46 : decode prog_7_method_33_code 46 = .ok (.if_icmp .ge 51, 3) := by decide +kernel
theorem d_Model_tick_49 : decode prog_7_method_33_code 49 = .ok (.aload_n 0, 1) := by decide +kernel
theorem d_Model_tick_50 : decode prog_7_method_33_code 50 = .ok (.getfield 57, 3) := by decide +kernel
theorem d_Model_tick_53 : decode prog_7_method_33_code 53 = .ok (.iconst 0, 1) := by decide +kernel
theorem d_Model_tick_54 : decode prog_7_method_33_code 54 = .ok (.iaload, 1) := by decide +kernel
theorem d_Model_tick_55 : decode prog_7_method_33_code 55 = .ok (.aload_n 0, 1) := by decide +kernel
theorem d_Model_tick_56 : decode prog_7_method_33_code 56 = .ok (.getfield 57, 3) := by decide +kernel
theorem d_Model_tick_59 : decode prog_7_method_33_code 59 = .ok (.iconst 1, 1) := by decide +kernel
theorem d_Model_tick_60 : decode prog_7_method_33_code 60 = .ok (.iaload, 1) := by decide +kernel
theorem d_Model_tick_61 : decode prog_7_method_33_code 61 = .ok (.iadd, 1) := by decide +kernel
theorem d_Model_tick_62 : decode prog_7_method_33_code 62 = .ok (.aload_n 0, 1) := by decide +kernel
theorem d_Model_tick_63 : decode prog_7_method_33_code 63 = .ok (.getfield 57, 3) := by decide +kernel
theorem d_Model_tick_66 : decode prog_7_method_33_code 66 = .ok (.iconst 2, 1) := by decide +kernel
theorem d_Model_tick_67 : decode prog_7_method_33_code 67 = .ok (.iaload, 1) := by decide +kernel
theorem d_Model_tick_68 : decode prog_7_method_33_code 68 = .ok (.iadd, 1) := by decide +kernel
theorem d_Model_tick_69 : decode prog_7_method_33_code 69 = .ok (.aload_n 0, 1) := by decide +kernel
theorem d_Model_tick_70 : decode prog_7_method_33_code 70 = .ok (.getfield 57, 3) := by decide +kernel
theorem d_Model_tick_73 : decode prog_7_method_33_code 73 = .ok (.iconst 3, 1) := by decide +kernel
theorem d_Model_tick_74 : decode prog_7_method_33_code 74 = .ok (.iaload, 1) := by decide +kernel
theorem d_Model_tick_75 : decode prog_7_method_33_code 75 = .ok (.iadd, 1) := by decide +kernel
theorem d_Model_tick_76 : decode prog_7_method_33_code 76 = .ok (.ifCond .le 9, 3) := by decide +kernel
theorem d_Model_tick_79 : decode prog_7_method_33_code 79 = .ok (.iload_n 2, 1) := by decide +kernel
theorem d_Model_tick_80 : decode prog_7_method_33_code 80 = .ok (.iconst 1, 1) := by decide +kernel
theorem d_Model_tick_81 : decode prog_7_method_33_code 81 = .ok (.iadd, 1) := by decide +kernel
theorem d_Model_tick_82 : decode prog_7_method_33_code 82 = .ok (.goto 4, 3) := by decide +kernel
theorem d_Model_tick_85 : decode prog_7_method_33_code 85 = .ok (.iload_n 2, 1) := by decide +kernel
theorem d_Model_tick_86 : decode prog_7_method_33_code 86 = .ok (.istore_n 2, 1) := by decide +kernel
theorem d_Model_tick_87 : decode prog_7_method_33_code 87 = .ok (.aload_n 0, 1) := by decide +kernel
theorem d_Model_tick_88 : decode prog_7_method_33_code 88 = .ok (.invokevirtual 179, 3) := by decide +kernel
theorem d_Model_tick_91 : decode prog_7_method_33_code 91 = .ok (.iinc 3 1, 3) := by decide +kernel
theorem d_Model_tick_94 : decode prog_7_method_33_code 94 = .ok (.goto (-50), 3) := by decide +kernel
theorem d_Model_tick_97 : decode prog_7_method_33_code 97 = .ok (.iload_n 2, 1) := by decide +kernel
theorem d_Model_tick_98 : decode prog_7_method_33_code 98 = .ok (.ireturn, 1) := by decide +kernel
theorem d_Model_draw_0 : decode prog_7_method_34_code 0 = .ok (.aload_n 0, 1) := by decide +kernel
theorem d_Model_draw_1 : decode prog_7_method_34_code 1 = .ok (.iload_n 1, 1) := by decide +kernel
theorem d_Model_draw_2 : decode prog_7_method_34_code 2 = .ok (.invokestatic 126, 3) := by decide +kernel
theorem d_Model_draw_5 : decode prog_7_method_34_code 5 = .ok (.iload_n 2, 1) := by decide +kernel
theorem d_Model_draw_6 : decode prog_7_method_34_code 6 = .ok (.iconst 0, 1) := by decide +kernel
theorem d_Model_draw_7 : decode prog_7_method_34_code 7 = .ok (.ldc 129, 2) := by decide +kernel
theorem d_Model_draw_9 : decode prog_7_method_34_code 9 = .ok (.invokestatic 114, 3) := by decide +kernel
theorem d_Model_draw_12 : decode prog_7_method_34_code 12 = .ok (.invokevirtual 163, 3) := by decide +kernel
theorem d_Model_draw_15 : decode prog_7_method_34_code 15 = .ok (.ifCond .ne 10, 3) := by decide +kernel
theorem d_Model_draw_18 : decode prog_7_method_34_code 18 = .ok (.aload_n 0, 1) := by decide +kernel
theorem d_Model_draw_19 : decode prog_7_method_34_code 19 = .ok (.getfield 72, 3) := by decide +kernel
theorem d_Model_draw_22 : decode prog_7_method_34_code 22 = .ok (.iload_n 1, 1) := by decide +kernel
theorem d_Model_draw_23 : decode prog_7_method_34_code 23 = .ok (.iload_n 2, 1) := by decide +kernel
theorem d_Model_draw_24 : decode prog_7_method_34_code 24 = .ok (.iastore, 1) := by decide +kernel
theorem d_Model_draw_25 : decode prog_7_method_34_code 25 = .ok (.return_, 1) := by decide +kernel
theorem d_Model_sensor_0 : decode prog_7_method_35_code 0 = .ok (.aload_n 0, 1) := by decide +kernel
theorem d_Model_sensor_1 : decode prog_7_method_35_code 1 = .ok (.iload_n 1, 1) := by decide +kernel
theorem d_Model_sensor_2 : decode prog_7_method_35_code 2 = .ok (.invokestatic 110, 3) := by decide +kernel
theorem d_Model_sensor_5 : decode prog_7_method_35_code 5 = .ok (.iload_n 2, 1) := by decide +kernel
theorem d_Model_sensor_6 : decode prog_7_method_35_code 6 = .ok (.sipush (-200), 3) := by decide +kernel
theorem d_Model_sensor_9 : decode prog_7_method_35_code 9 = .ok (.sipush 200, 3) := by decide +kernel
theorem d_Model_sensor_12 : decode prog_7_method_35_code 12 = .ok (.invokestatic 114, 3) := by decide +kernel
theorem d_Model_sensor_15 : decode prog_7_method_35_code 15 = .ok (.invokevirtual 163, 3) := by decide +kernel
theorem d_Model_sensor_18 : decode prog_7_method_35_code 18 = .ok (.ifCond .le 4, 3) := by decide +kernel
theorem d_Model_sensor_21 : decode prog_7_method_35_code 21 = .ok (.return_, 1) := by decide +kernel
theorem d_Model_sensor_22 : decode prog_7_method_35_code 22 = .ok (.aload_n 0, 1) := by decide +kernel
theorem d_Model_sensor_23 : decode prog_7_method_35_code 23 = .ok (.getfield 50, 3) := by decide +kernel
theorem d_Model_sensor_26 : decode prog_7_method_35_code 26 = .ok (.iload_n 1, 1) := by decide +kernel
theorem d_Model_sensor_27 : decode prog_7_method_35_code 27 = .ok (.iload_n 2, 1) := by decide +kernel
theorem d_Model_sensor_28 : decode prog_7_method_35_code 28 = .ok (.iastore, 1) := by decide +kernel
theorem d_Model_sensor_29 : decode prog_7_method_35_code 29 = .ok (.aload_n 0, 1) := by decide +kernel
theorem d_Model_sensor_30 : decode prog_7_method_35_code 30 = .ok (.getfield 53, 3) := by decide +kernel
theorem d_Model_sensor_33 : decode prog_7_method_35_code 33 = .ok (.iload_n 1, 1) := by decide +kernel
theorem d_Model_sensor_34 : decode prog_7_method_35_code 34 = .ok (.iload_n 3, 1) := by decide +kernel
theorem d_Model_sensor_35 : decode prog_7_method_35_code 35 = .ok (.ifCond .ne 7, 3) := by decide +kernel
theorem d_Model_sensor_38 : decode prog_7_method_35_code 38 = .ok (.iconst 1, 1) := by decide +kernel
theorem d_Model_sensor_39 : decode prog_7_method_35_code 39 = .ok (.goto 4, 3) := by decide +kernel
theorem d_Model_sensor_42 : decode prog_7_method_35_code 42 = .ok (.iconst 0, 1) := by decide +kernel
theorem d_Model_sensor_43 : decode prog_7_method_35_code 43 = .ok (.bastore, 1) := by decide +kernel
theorem d_Model_sensor_44 : decode prog_7_method_35_code 44 = .ok (.return_, 1) := by decide +kernel
theorem d_Model_ahead_0 : decode prog_7_method_36_code 0 = .ok (.aload_n 0, 1) := by decide +kernel
theorem d_Model_ahead_1 : decode prog_7_method_36_code 1 = .ok (.iload_n 1, 1) := by decide +kernel
theorem d_Model_ahead_2 : decode prog_7_method_36_code 2 = .ok (.ifCond .lt 10, 3) := by decide +kernel
theorem d_Model_ahead_5 : decode prog_7_method_36_code 5 = .ok (.iload_n 1, 1) := by decide +kernel
theorem d_Model_ahead_6 : decode prog_7_method_36_code 6 = .ok (.sipush 255, 3) := by decide +kernel
theorem d_Model_ahead_9 : decode prog_7_method_36_code 9 = .ok (.if_icmp .le 7, 3) := by decide +kernel
theorem d_Model_ahead_12 : decode prog_7_method_36_code 12 = .ok (.iconst 1, 1) := by decide +kernel
theorem d_Model_ahead_13 : decode prog_7_method_36_code 13 = .ok (.goto 15, 3) := by decide +kernel
theorem d_Model_ahead_16 : decode prog_7_method_36_code 16 = .ok (.aload_n 0, 1) := by decide +kernel
theorem d_Model_ahead_17 : decode prog_7_method_36_code 17 = .ok (.getfield 82, 3) := by decide +kernel
theorem d_Model_ahead_20 : decode prog_7_method_36_code 20 = .ok (.ifCond .ne 7, 3) := by decide +kernel
theorem d_Model_ahead_23 : decode prog_7_method_36_code 23 = .ok (.iconst 2, 1) := by decide +kernel
theorem d_Model_ahead_24 : decode prog_7_method_36_code 24 = .ok (.goto 4, 3) := by decide +kernel
theorem d_Model_ahead_27 : decode prog_7_method_36_code 27 = .ok (.iconst 0, 1) := by decide +kernel
theorem d_Model_ahead_28 : decode prog_7_method_36_code 28 = .ok (.putfield 78, 3) := by decide +kernel
theorem d_Model_ahead_31 : decode prog_7_method_36_code 31 = .ok (.aload_n 0, 1) := by decide +kernel
theorem d_Model_ahead_32 : decode prog_7_method_36_code 32 = .ok (.getfield 78, 3) := by decide +kernel
theorem d_Model_ahead_35 : decode prog_7_method_36_code 35 = .ok (.ifCond .le 5, 3) := by decide +kernel
theorem d_Model_ahead_38 : decode prog_7_method_36_code 38 = .ok (.iconst 0, 1) := by decide +kernel
theorem d_Model_ahead_39 : decode prog_7_method_36_code 39 = .ok (.ireturn, 1) := by decide +kernel
theorem d_Model_ahead_40 : decode prog_7_method_36_code 40 = .ok (.iconst 0, 1) := by decide +kernel
theorem d_Model_ahead_41 : decode prog_7_method_36_code 41 = .ok (.istore_n 2, 1) := by decide +kernel
theorem d_Model_ahead_42 : decode prog_7_method_36_code 42 = .ok (.iload_n 2, 1) := by decide +kernel
theorem d_Model_ahead_43 : decode prog_7_method_36_code 43 = .ok (.iconst 4, 1) := by decide +kernel
theorem d_Model_ahead_44 : decode prog_7_method_36_code 44 = .ok (.if_icmp .ge 22, 3) := by decide +kernel
theorem d_Model_ahead_47 : decode prog_7_method_36_code 47 = .ok (.aload_n 0, 1) := by decide +kernel
theorem d_Model_ahead_48 : decode prog_7_method_36_code 48 = .ok (.getfield 60, 3) := by decide +kernel
theorem d_Model_ahead_51 : decode prog_7_method_36_code 51 = .ok (.iload_n 2, 1) := by decide +kernel
theorem d_Model_ahead_52 : decode prog_7_method_36_code 52 = .ok (.iload_n 1, 1) := by decide +kernel
theorem d_Model_ahead_53 : decode prog_7_method_36_code 53 = .ok (.iconst 2, 1) := by decide +kernel
theorem d_Model_ahead_54 : decode prog_7_method_36_code 54 = .ok (.iload_n 2, 1) := by decide +kernel
theorem d_Model_ahead_55 : decode prog_7_method_36_code 55 = .ok (.imul, 1) := by decide +kernel
theorem d_Model_ahead_56 : decode prog_7_method_36_code 56 = .ok (.ishr, 1) := by decide +kernel
theorem d_Model_ahead_57 : decode prog_7_method_36_code 57 = .ok (.iconst 3, 1) := by decide +kernel
theorem d_Model_ahead_58 : decode prog_7_method_36_code 58 = .ok (.iand, 1) := by decide +kernel
theorem d_Model_ahead_59 : decode prog_7_method_36_code 59 = .ok (.iastore, 1) := by decide +kernel
theorem d_Model_ahead_60 : decode prog_7_method_36_code 60 = .ok (.iinc 2 1, 3) := by decide +kernel
theorem d_Model_ahead_63 : decode prog_7_method_36_code 63 = .ok (.goto (-21), 3) := by decide +kernel
theorem d_Model_ahead_66 : decode prog_7_method_36_code 66 = .ok (.aload_n 0, 1) := by decide +kernel
theorem d_Model_ahead_67 : decode prog_7_method_36_code 67 = .ok (.invokevirtual 160, 3) := by decide +kernel
theorem d_Model_ahead_70 : decode prog_7_method_36_code 70 = .ok (.ireturn, 1) := by decide +kernel
theorem d_Model_node_0 : decode prog_7_method_37_code 0 = .ok (.aload_n 0, 1) := by decide +kernel
theorem d_Model_node_1 : decode prog_7_method_37_code 1 = .ok (.iload_n 1, 1) := by decide +kernel
theorem d_Model_node_2 : decode prog_7_method_37_code 2 = .ok (.invokestatic 110, 3) := by decide +kernel
theorem d_Model_node_5 : decode prog_7_method_37_code 5 = .ok (.ifCond .eq 12, 3) := by decide +kernel
theorem d_Model_node_8 : decode prog_7_method_37_code 8 = .ok (.iload_n 2, 1) := by decide +kernel
theorem d_Model_node_9 : decode prog_7_method_37_code 9 = .ok (.iconst 0, 1) := by decide +kernel
theorem d_Model_node_10 : decode prog_7_method_37_code 10 = .ok (.iconst 3, 1) := by decide +kernel
theorem d_Model_node_11 : decode prog_7_method_37_code 11 = .ok (.invokestatic 114, 3) := by decide +kernel
theorem d_Model_node_14 : decode prog_7_method_37_code 14 = .ok (.ifCond .ne 7, 3) := by decide +kernel
theorem d_Model_node_17 : decode prog_7_method_37_code 17 = .ok (.iconst 1, 1) := by decide +kernel
theorem d_Model_node_18 : decode prog_7_method_37_code 18 = .ok (.goto 15, 3) := by decide +kernel
theorem d_Model_node_21 : decode prog_7_method_37_code 21 = .ok (.aload_n 0, 1) := by decide +kernel
theorem d_Model_node_22 : decode prog_7_method_37_code 22 = .ok (.getfield 82, 3) := by decide +kernel
theorem d_Model_node_25 : decode prog_7_method_37_code 25 = .ok (.ifCond .ne 7, 3) := by decide +kernel
theorem d_Model_node_28 : decode prog_7_method_37_code 28 = .ok (.iconst 2, 1) := by decide +kernel
theorem d_Model_node_29 : decode prog_7_method_37_code 29 = .ok (.goto 4, 3) := by decide +kernel
theorem d_Model_node_32 : decode prog_7_method_37_code 32 = .ok (.iconst 0, 1) := by decide +kernel
theorem d_Model_node_33 : decode prog_7_method_37_code 33 = .ok (.putfield 78, 3) := by decide +kernel
theorem d_Model_node_36 : decode prog_7_method_37_code 36 = .ok (.aload_n 0, 1) := by decide +kernel
theorem d_Model_node_37 : decode prog_7_method_37_code 37 = .ok (.getfield 78, 3) := by decide +kernel
theorem d_Model_node_40 : decode prog_7_method_37_code 40 = .ok (.ifCond .le 5, 3) := by decide +kernel
theorem d_Model_node_43 : decode prog_7_method_37_code 43 = .ok (.iconst 0, 1) := by decide +kernel
theorem d_Model_node_44 : decode prog_7_method_37_code 44 = .ok (.ireturn, 1) := by decide +kernel
theorem d_Model_node_45 : decode prog_7_method_37_code 45 = .ok (.iload_n 2, 1) := by decide +kernel
theorem d_Model_node_46 : decode prog_7_method_37_code 46 = .ok (.ifCond .ne 12, 3) := by decide +kernel
theorem d_Model_node_49 : decode prog_7_method_37_code 49 = .ok (.aload_n 0, 1) := by decide +kernel
theorem d_Model_node_50 : decode prog_7_method_37_code 50 = .ok (.getfield 34, 3) := by decide +kernel
theorem d_Model_node_53 : decode prog_7_method_37_code 53 = .ok (.iload_n 1, 1) := by decide +kernel
theorem d_Model_node_54 : decode prog_7_method_37_code 54 = .ok (.laload, 1) := by decide +kernel
theorem d_Model_node_55 : decode prog_7_method_37_code 55 = .ok (.goto 60, 3) := by decide +kernel
theorem d_Model_node_58 : decode prog_7_method_37_code 58 = .ok (.iload_n 2, 1) := by decide +kernel
theorem d_Model_node_59 : decode prog_7_method_37_code 59 = .ok (.iconst 1, 1) := by decide +kernel
theorem d_Model_node_60 : decode prog_7_method_37_code 60 = .ok (.if_icmp .ne 12, 3) := by decide +kernel
theorem d_Model_node_63 : decode prog_7_method_37_code 63 = .ok (.aload_n 0, 1) := by decide +kernel
theorem d_Model_node_64 : decode prog_7_method_37_code 64 = .ok (.getfield 38, 3) := by decide +kernel
theorem d_Model_node_67 : decode prog_7_method_37_code 67 = .ok (.iload_n 1, 1) := by decide +kernel
theorem d_Model_node_68 : decode prog_7_method_37_code 68 = .ok (.laload, 1) := by decide +kernel
theorem d_Model_node_69 : decode prog_7_method_37_code 69 = .ok (.goto 46, 3) := by decide +kernel
theorem d_Model_node_72 : decode prog_7_method_37_code 72 = .ok (.iload_n 2, 1) := by decide +kernel
theorem d_Model_node_73 : decode prog_7_method_37_code 73 = .ok (.iconst 2, 1) := by decide +kernel
theorem d_Model_node_74 : decode prog_7_method_37_code 74 = .ok (.if_icmp .ne 12, 3) := by decide +kernel
theorem d_Model_node_77 : decode prog_7_method_37_code 77 = .ok (.aload_n 0, 1) := by decide +kernel
theorem d_Model_node_78 : decode prog_7_method_37_code 78 = .ok (.getfield 41, 3) := by decide +kernel
theorem d_Model_node_81 : decode prog_7_method_37_code 81 = .ok (.iload_n 1, 1) := by decide +kernel
theorem d_Model_node_82 : decode prog_7_method_37_code 82 = .ok (.laload, 1) := by decide +kernel
theorem d_Model_node_83 : decode prog_7_method_37_code 83 = .ok (.goto 32, 3) := by decide +kernel
theorem d_Model_node_86 : decode prog_7_method_37_code 86 = .ok (.aload_n 0, 1) := by decide +kernel
theorem d_Model_node_87 : decode prog_7_method_37_code 87 = .ok (.getfield 53, 3) := by decide +kernel
theorem d_Model_node_90 : decode prog_7_method_37_code 90 = .ok (.iload_n 1, 1) := by decide +kernel
theorem d_Model_node_91 : decode prog_7_method_37_code 91 = .ok (.baload, 1) := by decide +kernel
theorem d_Model_node_92 : decode prog_7_method_37_code 92 = .ok (.ifCond .eq 9, 3) := by decide +kernel
theorem d_Model_node_95 : decode prog_7_method_37_code 95 = .ok (.ldc2_w 182, 3) := by decide +kernel
theorem d_Model_node_98 : decode prog_7_method_37_code 98 = .ok (.goto 17, 3) := by decide +kernel
theorem d_Model_node_101 : decode prog_7_method_37_code 101 = .ok (.aload_n 0, 1) := by decide +kernel
theorem d_Model_node_102 : decode prog_7_method_37_code 102 = .ok (.getfield 34, 3) := by decide +kernel
theorem d_Model_node_105 : decode prog_7_method_37_code 105 = .ok (.iload_n 1, 1) := by decide +kernel
theorem d_Model_node_106 : decode prog_7_method_37_code 106 = .ok (.laload, 1) := by decide +kernel
theorem d_Model_node_107 : decode prog_7_method_37_code 107 = .ok (.aload_n 0, 1) := by decide +kernel
theorem d_Model_node_108 : decode prog_7_method_37_code 108 = .ok (.getfield 50, 3) := by decide +kernel
theorem d_Model_node_111 : decode prog_7_method_37_code 111 = .ok (.iload_n 1, 1) := by decide +kernel
theorem d_Model_node_112 : decode prog_7_method_37_code 112 = .ok (.iaload, 1) := by decide +kernel
theorem d_Model_node_113 : decode prog_7_method_37_code 113 = .ok (.i2l, 1) := by decide +kernel
theorem d_Model_node_114 : decode prog_7_method_37_code 114 = .ok (.ladd, 1) := by decide +kernel
theorem d_Model_node_115 : decode prog_7_method_37_code 115 = .ok (.l2i, 1) := by decide +kernel
theorem d_Model_node_116 : decode prog_7_method_37_code 116 = .ok (.ireturn, 1) := by decide +kernel
theorem d_Model_core_0 : decode prog_7_method_38_code 0 = .ok (.aload_n 0, 1) := by decide +kernel
theorem d_Model_core_1 : decode prog_7_method_38_code 1 = .ok (.iload_n 1, 1) := by decide +kernel
theorem d_Model_core_2 : decode prog_7_method_38_code 2 = .ok (.invokestatic 126, 3) := by decide +kernel
theorem d_Model_core_5 : decode prog_7_method_38_code 5 = .ok (.ifCond .eq 12, 3) := by decide +kernel
theorem d_Model_core_8 : decode prog_7_method_38_code 8 = .ok (.iload_n 2, 1) := by decide +kernel
theorem d_Model_core_9 : decode prog_7_method_38_code 9 = .ok (.iconst 0, 1) := by decide +kernel
theorem d_Model_core_10 : decode prog_7_method_38_code 10 = .ok (.iconst 3, 1) := by decide +kernel
theorem d_Model_core_11 : decode prog_7_method_38_code 11 = .ok (.invokestatic 114, 3) := by decide +kernel
theorem d_Model_core_14 : decode prog_7_method_38_code 14 = .ok (.ifCond .ne 7, 3) := by decide +kernel
theorem d_Model_core_17 : decode prog_7_method_38_code 17 = .ok (.iconst 1, 1) := by decide +kernel
theorem d_Model_core_18 : decode prog_7_method_38_code 18 = .ok (.goto 15, 3) := by decide +kernel
theorem d_Model_core_21 : decode prog_7_method_38_code 21 = .ok (.aload_n 0, 1) := by decide +kernel
theorem d_Model_core_22 : decode prog_7_method_38_code 22 = .ok (.getfield 82, 3) := by decide +kernel
theorem d_Model_core_25 : decode prog_7_method_38_code 25 = .ok (.ifCond .ne 7, 3) := by decide +kernel
theorem d_Model_core_28 : decode prog_7_method_38_code 28 = .ok (.iconst 2, 1) := by decide +kernel
theorem d_Model_core_29 : decode prog_7_method_38_code 29 = .ok (.goto 4, 3) := by decide +kernel
theorem d_Model_core_32 : decode prog_7_method_38_code 32 = .ok (.iconst 0, 1) := by decide +kernel
theorem d_Model_core_33 : decode prog_7_method_38_code 33 = .ok (.putfield 78, 3) := by decide +kernel
theorem d_Model_core_36 : decode prog_7_method_38_code 36 = .ok (.aload_n 0, 1) := by decide +kernel
theorem d_Model_core_37 : decode prog_7_method_38_code 37 = .ok (.getfield 78, 3) := by decide +kernel
theorem d_Model_core_40 : decode prog_7_method_38_code 40 = .ok (.ifCond .le 5, 3) := by decide +kernel
theorem d_Model_core_43 : decode prog_7_method_38_code 43 = .ok (.iconst 0, 1) := by decide +kernel
theorem d_Model_core_44 : decode prog_7_method_38_code 44 = .ok (.ireturn, 1) := by decide +kernel
theorem d_Model_core_45 : decode prog_7_method_38_code 45 = .ok (.iload_n 2, 1) := by decide +kernel
theorem d_Model_core_46 : decode prog_7_method_38_code 46 = .ok (.ifCond .ne 12, 3) := by decide +kernel
theorem d_Model_core_49 : decode prog_7_method_38_code 49 = .ok (.aload_n 0, 1) := by decide +kernel
theorem d_Model_core_50 : decode prog_7_method_38_code 50 = .ok (.getfield 57, 3) := by decide +kernel
theorem d_Model_core_53 : decode prog_7_method_38_code 53 = .ok (.iload_n 1, 1) := by decide +kernel
theorem d_Model_core_54 : decode prog_7_method_38_code 54 = .ok (.iaload, 1) := by decide +kernel
theorem d_Model_core_55 : decode prog_7_method_38_code 55 = .ok (.goto 36, 3) := by decide +kernel
theorem d_Model_core_58 : decode prog_7_method_38_code 58 = .ok (.iload_n 2, 1) := by decide +kernel
theorem d_Model_core_59 : decode prog_7_method_38_code 59 = .ok (.iconst 1, 1) := by decide +kernel
theorem d_Model_core_60 : decode prog_7_method_38_code 60 = .ok (.if_icmp .ne 12, 3) := by decide +kernel
theorem d_Model_core_63 : decode prog_7_method_38_code 63 = .ok (.aload_n 0, 1) := by decide +kernel
theorem d_Model_core_64 : decode prog_7_method_38_code 64 = .ok (.getfield 63, 3) := by decide +kernel
theorem d_Model_core_67 : decode prog_7_method_38_code 67 = .ok (.iload_n 1, 1) := by decide +kernel
theorem d_Model_core_68 : decode prog_7_method_38_code 68 = .ok (.iaload, 1) := by decide +kernel
theorem d_Model_core_69 : decode prog_7_method_38_code 69 = .ok (.goto 22, 3) := by decide +kernel
theorem d_Model_core_72 : decode prog_7_method_38_code 72 = .ok (.iload_n 2, 1) := by decide +kernel
theorem d_Model_core_73 : decode prog_7_method_38_code 73 = .ok (.iconst 2, 1) := by decide +kernel
theorem d_Model_core_74 : decode prog_7_method_38_code 74 = .ok (.if_icmp .ne 12, 3) := by decide +kernel
theorem d_Model_core_77 : decode prog_7_method_38_code 77 = .ok (.aload_n 0, 1) := by decide +kernel
theorem d_Model_core_78 : decode prog_7_method_38_code 78 = .ok (.getfield 69, 3) := by decide +kernel
theorem d_Model_core_81 : decode prog_7_method_38_code 81 = .ok (.iload_n 1, 1) := by decide +kernel
theorem d_Model_core_82 : decode prog_7_method_38_code 82 = .ok (.iaload, 1) := by decide +kernel
theorem d_Model_core_83 : decode prog_7_method_38_code 83 = .ok (.goto 8, 3) := by decide +kernel
theorem d_Model_core_86 : decode prog_7_method_38_code 86 = .ok (.aload_n 0, 1) := by decide +kernel
theorem d_Model_core_87 : decode prog_7_method_38_code 87 = .ok (.iload_n 1, 1) := by decide +kernel
theorem d_Model_core_88 : decode prog_7_method_38_code 88 = .ok (.invokevirtual 139, 3) := by decide +kernel
theorem d_Model_core_91 : decode prog_7_method_38_code 91 = .ok (.ireturn, 1) := by decide +kernel
theorem d_Model_open_0 : decode prog_7_method_39_code 0 = .ok (.aload_n 0, 1) := by decide +kernel
theorem d_Model_open_1 : decode prog_7_method_39_code 1 = .ok (.iconst 0, 1) := by decide +kernel
theorem d_Model_open_2 : decode prog_7_method_39_code 2 = .ok (.putfield 78, 3) := by decide +kernel
theorem d_Model_open_5 : decode prog_7_method_39_code 5 = .ok (.aload_n 0, 1) := by decide +kernel
theorem d_Model_open_6 : decode prog_7_method_39_code 6 = .ok (.invokevirtual 75, 3) := by decide +kernel
theorem d_Model_open_9 : decode prog_7_method_39_code 9 = .ok (.return_, 1) := by decide +kernel
