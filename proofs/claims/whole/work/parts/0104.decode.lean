theorem d_Model_boundTick_40 : decode prog_7_method_19_code 40 = .ok (.lconst 0, 1) := by decide +kernel
theorem d_Model_boundTick_41 : decode prog_7_method_19_code 41 = .ok (.lstore 5, 2) := by decide +kernel
theorem d_Model_boundTick_43 : decode prog_7_method_19_code 43 = .ok (.iconst 0, 1) := by decide +kernel
theorem d_Model_boundTick_44 : decode prog_7_method_19_code 44 = .ok (.istore 7, 2) := by decide +kernel
theorem d_Model_boundTick_46 : decode prog_7_method_19_code 46 = .ok (.iload 7, 2) := by decide +kernel
theorem d_Model_boundTick_48 : decode prog_7_method_19_code 48 = .ok (.bipush 6, 2) := by decide +kernel
theorem d_Model_boundTick_50 : decode prog_7_method_19_code 50 = .ok (.if_icmp .gt 80, 3) := by decide +kernel
theorem d_Model_boundTick_53 : decode prog_7_method_19_code 53 = .ok (.iload 7, 2) := by decide +kernel
theorem d_Model_boundTick_55 : decode prog_7_method_19_code 55 = .ok (.bipush 6, 2) := by decide +kernel
theorem d_Model_boundTick_57 : decode prog_7_method_19_code 57 = .ok (.if_icmp .ne 11, 3) := by decide +kernel
theorem d_Model_boundTick_60 : decode prog_7_method_19_code 60 = .ok (.aload_n 0, 1) := by decide +kernel
theorem d_Model_boundTick_61 : decode prog_7_method_19_code 61 = .ok (.getfield 92, 3) := by decide +kernel
theorem d_Model_boundTick_64 : decode prog_7_method_19_code 64 = .ok (.i2l, 1) := by decide +kernel
theorem d_Model_boundTick_65 : decode prog_7_method_19_code 65 = .ok (.goto 7, 3) := by decide +kernel
theorem d_Model_boundTick_68 : decode prog_7_method_19_code 68 = .ok (.aload_n 1, 1) := by decide +kernel
theorem d_Model_boundTick_69 : decode prog_7_method_19_code 69 = .ok (.iload 7, 2) := by decide +kernel
theorem d_Model_boundTick_71 : decode prog_7_method_19_code 71 = .ok (.laload, 1) := by decide +kernel
theorem d_Model_boundTick_72 : decode prog_7_method_19_code 72 = .ok (.aload_n 1, 1) := by decide +kernel
theorem d_Model_boundTick_73 : decode prog_7_method_19_code 73 = .ok (.iload 4, 2) := by decide +kernel
theorem d_Model_boundTick_75 : decode prog_7_method_19_code 75 = .ok (.laload, 1) := by decide +kernel
theorem d_Model_boundTick_76 : decode prog_7_method_19_code 76 = .ok (.lsub, 1) := by decide +kernel
theorem d_Model_boundTick_77 : decode prog_7_method_19_code 77 = .ok (.lstore 8, 2) := by decide +kernel
theorem d_Model_boundTick_79 : decode prog_7_method_19_code 79 = .ok (.lload 5, 2) := by decide +kernel
theorem d_Model_boundTick_81 : decode prog_7_method_19_code 81 = .ok (.lload 8, 2) := by decide +kernel
theorem d_Model_boundTick_83 : decode prog_7_method_19_code 83 = .ok (.lconst 0, 1) := by decide +kernel
theorem d_Model_boundTick_84 : decode prog_7_method_19_code 84 = .ok (.lcmp, 1) := by decide +kernel
theorem d_Model_boundTick_85 : decode prog_7_method_19_code 85 = .ok (.ifCond .le 19, 3) := by decide +kernel
theorem d_Model_boundTick_88 : decode prog_7_method_19_code 88 = .ok (.aload_n 0, 1) := by decide +kernel
theorem d_Model_boundTick_89 : decode prog_7_method_19_code 89 = .ok (.getfield 22, 3) := by decide +kernel
theorem d_Model_boundTick_92 : decode prog_7_method_19_code 92 = .ok (.bipush 7, 2) := by decide +kernel
theorem d_Model_boundTick_94 : decode prog_7_method_19_code 94 = .ok (.iload 4, 2) := by decide +kernel
theorem d_Model_boundTick_96 : decode prog_7_method_19_code 96 = .ok (.imul, 1) := by decide +kernel
theorem d_Model_boundTick_97 : decode prog_7_method_19_code 97 = .ok (.iload 7, 2) := by decide +kernel
theorem d_Model_boundTick_99 : decode prog_7_method_19_code 99 = .ok (.iadd, 1) := by decide +kernel
theorem d_Model_boundTick_100 : decode prog_7_method_19_code 100 = .ok (.iaload, 1) := by decide +kernel
theorem d_Model_boundTick_101 : decode prog_7_method_19_code 101 = .ok (.goto 16, 3) := by decide +kernel
theorem d_Model_boundTick_104 : decode prog_7_method_19_code 104 = .ok (.aload_n 0, 1) := by decide +kernel
theorem d_Model_boundTick_105 : decode prog_7_method_19_code 105 = .ok (.getfield 19, 3) := by decide +kernel
theorem d_Model_boundTick_108 : decode prog_7_method_19_code 108 = .ok (.bipush 7, 2) := by decide +kernel
theorem d_Model_boundTick_110 : decode prog_7_method_19_code 110 = .ok (.iload 4, 2) := by decide +kernel
theorem d_Model_boundTick_112 : decode prog_7_method_19_code 112 = .ok (.imul, 1) := by decide +kernel
theorem d_Model_boundTick_113 : decode prog_7_method_19_code 113 = .ok (.iload 7, 2) := by decide +kernel
theorem d_Model_boundTick_115 : decode prog_7_method_19_code 115 = .ok (.iadd, 1) := by decide +kernel
theorem d_Model_boundTick_116 : decode prog_7_method_19_code 116 = .ok (.iaload, 1) := by decide +kernel
theorem d_Model_boundTick_117 : decode prog_7_method_19_code 117 = .ok (.i2l, 1) := by decide +kernel
theorem d_Model_boundTick_118 : decode prog_7_method_19_code 118 = .ok (.lload 8, 2) := by decide +kernel
theorem d_Model_boundTick_120 : decode prog_7_method_19_code 120 = .ok (.lmul, 1) := by decide +kernel
theorem d_Model_boundTick_121 : decode prog_7_method_19_code 121 = .ok (.ladd, 1) := by decide +kernel
theorem d_Model_boundTick_122 : decode prog_7_method_19_code 122 = .ok (.lstore 5, 2) := by decide +kernel
theorem d_Model_boundTick_124 : decode prog_7_method_19_code 124 = .ok (.iinc 7 1, 3) := by decide +kernel
theorem d_Model_boundTick_127 : decode prog_7_method_19_code 127 = .ok (.goto (-81), 3) := by decide +kernel
theorem d_Model_boundTick_130 : decode prog_7_method_19_code 130 = .ok (.aload_n 0, 1) := by decide +kernel
theorem d_Model_boundTick_131 : decode prog_7_method_19_code 131 = .ok (.getfield 44, 3) := by decide +kernel
theorem d_Model_boundTick_134 : decode prog_7_method_19_code 134 = .ok (.iload 4, 2) := by decide +kernel
theorem d_Model_boundTick_136 : decode prog_7_method_19_code 136 = .ok (.aload_n 1, 1) := by decide +kernel
theorem d_Model_boundTick_137 : decode prog_7_method_19_code 137 = .ok (.iload 4, 2) := by decide +kernel
theorem d_Model_boundTick_139 : decode prog_7_method_19_code 139 = .ok (.laload, 1) := by decide +kernel
theorem d_Model_boundTick_140 : decode prog_7_method_19_code 140 = .ok (.lload 5, 2) := by decide +kernel
theorem d_Model_boundTick_142 : decode prog_7_method_19_code 142 = .ok (.lload 5, 2) := by decide +kernel
theorem d_Model_boundTick_144 : decode prog_7_method_19_code 144 = .ok (.lconst 0, 1) := by decide +kernel
theorem d_Model_boundTick_145 : decode prog_7_method_19_code 145 = .ok (.lcmp, 1) := by decide +kernel
theorem d_Model_boundTick_146 : decode prog_7_method_19_code 146 = .ok (.ifCond .le 14, 3) := by decide +kernel
theorem d_Model_boundTick_149 : decode prog_7_method_19_code 149 = .ok (.aload_n 0, 1) := by decide +kernel
theorem d_Model_boundTick_150 : decode prog_7_method_19_code 150 = .ok (.getfield 7, 3) := by decide +kernel
theorem d_Model_boundTick_153 : decode prog_7_method_19_code 153 = .ok (.iload 4, 2) := by decide +kernel
theorem d_Model_boundTick_155 : decode prog_7_method_19_code 155 = .ok (.iaload, 1) := by decide +kernel
theorem d_Model_boundTick_156 : decode prog_7_method_19_code 156 = .ok (.i2l, 1) := by decide +kernel
theorem d_Model_boundTick_157 : decode prog_7_method_19_code 157 = .ok (.goto 11, 3) := by decide +kernel
theorem d_Model_boundTick_160 : decode prog_7_method_19_code 160 = .ok (.aload_n 0, 1) := by decide +kernel
theorem d_Model_boundTick_161 : decode prog_7_method_19_code 161 = .ok (.getfield 13, 3) := by decide +kernel
theorem d_Model_boundTick_164 : decode prog_7_method_19_code 164 = .ok (.iload 4, 2) := by decide +kernel
theorem d_Model_boundTick_166 : decode prog_7_method_19_code 166 = .ok (.iaload, 1) := by decide +kernel
theorem d_Model_boundTick_167 : decode prog_7_method_19_code 167 = .ok (.i2l, 1) := by decide +kernel
theorem d_Model_boundTick_168 : decode prog_7_method_19_code 168 = .ok (.invokestatic 135, 3) := by decide +kernel
theorem d_Model_boundTick_171 : decode prog_7_method_19_code 171 = .ok (.ladd, 1) := by decide +kernel
theorem d_Model_boundTick_172 : decode prog_7_method_19_code 172 = .ok (.lastore, 1) := by decide +kernel
theorem d_Model_boundTick_173 : decode prog_7_method_19_code 173 = .ok (.iload_n 3, 1) := by decide +kernel
theorem d_Model_boundTick_174 : decode prog_7_method_19_code 174 = .ok (.ifCond .ne 18, 3) := by decide +kernel
theorem d_Model_boundTick_177 : decode prog_7_method_19_code 177 = .ok (.aload_n 0, 1) := by decide +kernel
theorem d_Model_boundTick_178 : decode prog_7_method_19_code 178 = .ok (.getfield 44, 3) := by decide +kernel
theorem d_Model_boundTick_181 : decode prog_7_method_19_code 181 = .ok (.iload 4, 2) := by decide +kernel
theorem d_Model_boundTick_183 : decode prog_7_method_19_code 183 = .ok (.laload, 1) := by decide +kernel
theorem d_Model_boundTick_184 : decode prog_7_method_19_code 184 = .ok (.aload_n 1, 1) := by decide +kernel
theorem d_Model_boundTick_185 : decode prog_7_method_19_code 185 = .ok (.iload 4, 2) := by decide +kernel
theorem d_Model_boundTick_187 : decode prog_7_method_19_code 187 = .ok (.laload, 1) := by decide +kernel
theorem d_Model_boundTick_188 : decode prog_7_method_19_code 188 = .ok (.lcmp, 1) := by decide +kernel
theorem d_Model_boundTick_189 : decode prog_7_method_19_code 189 = .ok (.ifCond .le 7, 3) := by decide +kernel
theorem d_Model_boundTick_192 : decode prog_7_method_19_code 192 = .ok (.iconst 1, 1) := by decide +kernel
theorem d_Model_boundTick_193 : decode prog_7_method_19_code 193 = .ok (.goto 4, 3) := by decide +kernel
theorem d_Model_boundTick_196 : decode prog_7_method_19_code 196 = .ok (.iconst 0, 1) := by decide +kernel
theorem d_Model_boundTick_197 : decode prog_7_method_19_code 197 = .ok (.istore_n 3, 1) := by decide +kernel
theorem d_Model_boundTick_198 : decode prog_7_method_19_code 198 = .ok (.iinc 4 1, 3) := by decide +kernel
theorem d_Model_boundTick_201 : decode prog_7_method_19_code 201 = .ok (.goto (-196), 3) := by decide +kernel
theorem d_Model_boundTick_204 : decode prog_7_method_19_code 204 = .ok (.iconst 0, 1) := by decide +kernel
theorem d_Model_boundTick_205 : decode prog_7_method_19_code 205 = .ok (.istore 4, 2) := by decide +kernel
theorem d_Model_boundTick_207 : decode prog_7_method_19_code 207 = .ok (.iload 4, 2) := by decide +kernel
theorem d_Model_boundTick_209 : decode prog_7_method_19_code 209 = .ok (.bipush 6, 2) := by decide +kernel
theorem d_Model_boundTick_211 : decode prog_7_method_19_code 211 = .ok (.if_icmp .ge 20, 3) := by decide +kernel
theorem d_Model_boundTick_214 : decode prog_7_method_19_code 214 = .ok (.aload_n 1, 1) := by decide +kernel
theorem d_Model_boundTick_215 : decode prog_7_method_19_code 215 = .ok (.iload 4, 2) := by decide +kernel
theorem d_Model_boundTick_217 : decode prog_7_method_19_code 217 = .ok (.aload_n 0, 1) := by decide +kernel
theorem d_Model_boundTick_218 : decode prog_7_method_19_code 218 = .ok (.getfield 44, 3) := by decide +kernel
theorem d_Model_boundTick_221 : decode prog_7_method_19_code 221 = .ok (.iload 4, 2) := by decide +kernel
theorem d_Model_boundTick_223 : decode prog_7_method_19_code 223 = .ok (.laload, 1) := by decide +kernel
theorem d_Model_boundTick_224 : decode prog_7_method_19_code 224 = .ok (.lastore, 1) := by decide +kernel
theorem d_Model_boundTick_225 : decode prog_7_method_19_code 225 = .ok (.iinc 4 1, 3) := by decide +kernel
theorem d_Model_boundTick_228 : decode prog_7_method_19_code 228 = .ok (.goto (-21), 3) := by decide +kernel
theorem d_Model_boundTick_231 : decode prog_7_method_19_code 231 = .ok (.iload_n 3, 1) := by decide +kernel
theorem d_Model_boundTick_232 : decode prog_7_method_19_code 232 = .ok (.ireturn, 1) := by decide +kernel
theorem d_Model_trueTick_0 : decode prog_7_method_20_code 0 = .ok (.iconst 0, 1) := by decide +kernel
theorem d_Model_trueTick_1 : decode prog_7_method_20_code 1 = .ok (.istore_n 1, 1) := by decide +kernel
theorem d_Model_trueTick_2 : decode prog_7_method_20_code 2 = .ok (.iload_n 1, 1) := by decide +kernel
theorem d_Model_trueTick_3 : decode prog_7_method_20_code 3 = .ok (.bipush 6, 2) := by decide +kernel
theorem d_Model_trueTick_5 : decode prog_7_method_20_code 5 = .ok (.if_icmp .ge 122, 3) := by decide +kernel
theorem d_Model_trueTick_8 : decode prog_7_method_20_code 8 = .ok (.iload_n 1, 1) := by decide +kernel
theorem d_Model_trueTick_9 : decode prog_7_method_20_code 9 = .ok (.iconst 4, 1) := by decide +kernel
theorem d_Model_trueTick_10 : decode prog_7_method_20_code 10 = .ok (.if_icmp .ge 23, 3) := by decide +kernel
theorem d_Model_trueTick_13 : decode prog_7_method_20_code 13 = .ok (.aload_n 0, 1) := by decide +kernel
theorem d_Model_trueTick_14 : decode prog_7_method_20_code 14 = .ok (.iload_n 1, 1) := by decide +kernel
theorem d_Model_trueTick_15 : decode prog_7_method_20_code 15 = .ok (.invokevirtual 139, 3) := by decide +kernel
theorem d_Model_trueTick_18 : decode prog_7_method_20_code 18 = .ok (.i2l, 1) := by decide +kernel
theorem d_Model_trueTick_19 : decode prog_7_method_20_code 19 = .ok (.aload_n 0, 1) := by decide +kernel
theorem d_Model_trueTick_20 : decode prog_7_method_20_code 20 = .ok (.aload_n 0, 1) := by decide +kernel
theorem d_Model_trueTick_21 : decode prog_7_method_20_code 21 = .ok (.getfield 34, 3) := by decide +kernel
theorem d_Model_trueTick_24 : decode prog_7_method_20_code 24 = .ok (.iload_n 1, 1) := by decide +kernel
theorem d_Model_trueTick_25 : decode prog_7_method_20_code 25 = .ok (.laload, 1) := by decide +kernel
theorem d_Model_trueTick_26 : decode prog_7_method_20_code 26 = .ok (.invokevirtual 131, 3) := by decide +kernel
theorem d_Model_trueTick_29 : decode prog_7_method_20_code 29 = .ok (.ladd, 1) := by decide +kernel
theorem d_Model_trueTick_30 : decode prog_7_method_20_code 30 = .ok (.goto 4, 3) := by decide +kernel
theorem d_Model_trueTick_33 : decode prog_7_method_20_code 33 = .ok (.lconst 0, 1) := by decide +kernel
theorem d_Model_trueTick_34 : decode prog_7_method_20_code 34 = .ok (.lstore_n 2, 1) := by decide +kernel
theorem d_Model_trueTick_35 : decode prog_7_method_20_code 35 = .ok (.iconst 0, 1) := by decide +kernel
theorem d_Model_trueTick_36 : decode prog_7_method_20_code 36 = .ok (.istore 4, 2) := by decide +kernel
theorem d_Model_trueTick_38 : decode prog_7_method_20_code 38 = .ok (.iload 4, 2) := by decide +kernel
theorem d_Model_trueTick_40 : decode prog_7_method_20_code 40 = .ok (.bipush 6, 2) := by decide +kernel
theorem d_Model_trueTick_42 : decode prog_7_method_20_code 42 = .ok (.if_icmp .gt 55, 3) := by decide +kernel
theorem d_Model_trueTick_45 : decode prog_7_method_20_code 45 = .ok (.lload_n 2, 1) := by decide +kernel
theorem d_Model_trueTick_46 : decode prog_7_method_20_code 46 = .ok (.aload_n 0, 1) := by decide +kernel
theorem d_Model_trueTick_47 : decode prog_7_method_20_code 47 = .ok (.getfield 25, 3) := by decide +kernel
theorem d_Model_trueTick_50 : decode prog_7_method_20_code 50 = .ok (.bipush 7, 2) := by decide +kernel
theorem d_Model_trueTick_52 : decode prog_7_method_20_code 52 = .ok (.iload_n 1, 1) := by decide +kernel
theorem d_Model_trueTick_53 : decode prog_7_method_20_code 53 = .ok (.imul, 1) := by decide +kernel
theorem d_Model_trueTick_54 : decode prog_7_method_20_code 54 = .ok (.iload 4, 2) := by decide +kernel
theorem d_Model_trueTick_56 : decode prog_7_method_20_code 56 = .ok (.iadd, 1) := by decide +kernel
theorem d_Model_trueTick_57 : decode prog_7_method_20_code 57 = .ok (.iaload, 1) := by decide +kernel
theorem d_Model_trueTick_58 : decode prog_7_method_20_code 58 = .ok (.i2l, 1) := by decide +kernel
theorem d_Model_trueTick_59 : decode prog_7_method_20_code 59 = .ok (.iload 4, 2) := by decide +kernel
theorem d_Model_trueTick_61 : decode prog_7_method_20_code 61 = .ok (.bipush 6, 2) := by decide +kernel
theorem d_Model_trueTick_63 : decode prog_7_method_20_code 63 = .ok (.if_icmp .ne 11, 3) := by decide +kernel
theorem d_Model_trueTick_66 : decode prog_7_method_20_code 66 = .ok (.aload_n 0, 1) := by decide +kernel
theorem d_Model_trueTick_67 : decode prog_7_method_20_code 67 = .ok (.getfield 89, 3) := by decide +kernel
theorem d_Model_trueTick_70 : decode prog_7_method_20_code 70 = .ok (.i2l, 1) := by decide +kernel
theorem d_Model_trueTick_71 : decode prog_7_method_20_code 71 = .ok (.goto 10, 3) := by decide +kernel
theorem d_Model_trueTick_74 : decode prog_7_method_20_code 74 = .ok (.aload_n 0, 1) := by decide +kernel
theorem d_Model_trueTick_75 : decode prog_7_method_20_code 75 = .ok (.getfield 34, 3) := by decide +kernel
theorem d_Model_trueTick_78 : decode prog_7_method_20_code 78 = .ok (.iload 4, 2) := by decide +kernel
theorem d_Model_trueTick_80 : decode prog_7_method_20_code 80 = .ok (.laload, 1) := by decide +kernel
theorem d_Model_trueTick_81 : decode prog_7_method_20_code 81 = .ok (.aload_n 0, 1) := by decide +kernel
theorem d_Model_trueTick_82 : decode prog_7_method_20_code 82 = .ok (.getfield 34, 3) := by decide +kernel
theorem d_Model_trueTick_85 : decode prog_7_method_20_code 85 = .ok (.iload_n 1, 1) := by decide +kernel
theorem d_Model_trueTick_86 : decode prog_7_method_20_code 86 = .ok (.laload, 1) := by decide +kernel
theorem d_Model_trueTick_87 : decode prog_7_method_20_code 87 = .ok (.lsub, 1) := by decide +kernel
theorem d_Model_trueTick_88 : decode prog_7_method_20_code 88 = .ok (.lmul, 1) := by decide +kernel
theorem d_Model_trueTick_89 : decode prog_7_method_20_code 89 = .ok (.ladd, 1) := by decide +kernel
theorem d_Model_trueTick_90 : decode prog_7_method_20_code 90 = .ok (.lstore_n 2, 1) := by decide +kernel
theorem d_Model_trueTick_91 : decode prog_7_method_20_code 91 = .ok (.iinc 4 1, 3) := by decide +kernel
theorem d_Model_trueTick_94 : decode prog_7_method_20_code 94 = .ok (.goto (-56), 3) := by decide +kernel
theorem d_Model_trueTick_97 : decode prog_7_method_20_code 97 = .ok (.aload_n 0, 1) := by decide +kernel
theorem d_Model_trueTick_98 : decode prog_7_method_20_code 98 = .ok (.getfield 44, 3) := by decide +kernel
theorem d_Model_trueTick_101 : decode prog_7_method_20_code 101 = .ok (.iload_n 1, 1) := by decide +kernel
theorem d_Model_trueTick_102 : decode prog_7_method_20_code 102 = .ok (.aload_n 0, 1) := by decide +kernel
theorem d_Model_trueTick_103 : decode prog_7_method_20_code 103 = .ok (.getfield 34, 3) := by decide +kernel
theorem d_Model_trueTick_106 : decode prog_7_method_20_code 106 = .ok (.iload_n 1, 1) := by decide +kernel
theorem d_Model_trueTick_107 : decode prog_7_method_20_code 107 = .ok (.laload, 1) := by decide +kernel
theorem d_Model_trueTick_108 : decode prog_7_method_20_code 108 = .ok (.lload_n 2, 1) := by decide +kernel
theorem d_Model_trueTick_109 : decode prog_7_method_20_code 109 = .ok (.aload_n 0, 1) := by decide +kernel
theorem d_Model_trueTick_110 : decode prog_7_method_20_code 110 = .ok (.getfield 16, 3) := by decide +kernel
theorem d_Model_trueTick_113 : decode prog_7_method_20_code 113 = .ok (.iload_n 1, 1) := by decide +kernel
theorem d_Model_trueTick_114 : decode prog_7_method_20_code 114 = .ok (.iaload, 1) := by decide +kernel
theorem d_Model_trueTick_115 : decode prog_7_method_20_code 115 = .ok (.i2l, 1) := by decide +kernel
theorem d_Model_trueTick_116 : decode prog_7_method_20_code 116 = .ok (.invokestatic 143, 3) := by decide +kernel
theorem d_Model_trueTick_119 : decode prog_7_method_20_code 119 = .ok (.ladd, 1) := by decide +kernel
theorem d_Model_trueTick_120 : decode prog_7_method_20_code 120 = .ok (.lastore, 1) := by decide +kernel
theorem d_Model_trueTick_121 : decode prog_7_method_20_code 121 = .ok (.iinc 1 1, 3) := by decide +kernel
theorem d_Model_trueTick_124 : decode prog_7_method_20_code 124 = .ok (.goto (-122), 3) := by decide +kernel
theorem d_Model_trueTick_127 : decode prog_7_method_20_code 127 = .ok (.iconst 0, 1) := by decide +kernel
theorem d_Model_trueTick_128 : decode prog_7_method_20_code 128 = .ok (.istore_n 1, 1) := by decide +kernel
theorem d_Model_trueTick_129 : decode prog_7_method_20_code 129 = .ok (.iload_n 1, 1) := by decide +kernel
theorem d_Model_trueTick_130 : decode prog_7_method_20_code 130 = .ok (.bipush 6, 2) := by decide +kernel
theorem d_Model_trueTick_132 : decode prog_7_method_20_code 132 = .ok (.if_icmp .ge 21, 3) := by decide +kernel
theorem d_Model_trueTick_135 : decode prog_7_method_20_code 135 = .ok (.aload_n 0, 1) := by decide +kernel
theorem d_Model_trueTick_136 : decode prog_7_method_20_code 136 = .ok (.getfield 34, 3) := by decide +kernel
theorem d_Model_trueTick_139 : decode prog_7_method_20_code 139 = .ok (.iload_n 1, 1) := by decide +kernel
theorem d_Model_trueTick_140 : decode prog_7_method_20_code 140 = .ok (.aload_n 0, 1) := by decide +kernel
theorem d_Model_trueTick_141 : decode prog_7_method_20_code 141 = .ok (.getfield 44, 3) := by decide +kernel
theorem d_Model_trueTick_144 : decode prog_7_method_20_code 144 = .ok (.iload_n 1, 1) := by decide +kernel
theorem d_Model_trueTick_145 : decode prog_7_method_20_code 145 = .ok (.laload, 1) := by decide +kernel
theorem d_Model_trueTick_146 : decode prog_7_method_20_code 146 = .ok (.lastore, 1) := by decide +kernel
theorem d_Model_trueTick_147 : decode prog_7_method_20_code 147 = .ok (.iinc 1 1, 3) := by decide +kernel
theorem d_Model_trueTick_150 : decode prog_7_method_20_code 150 = .ok (.goto (-21), 3) := by decide +kernel
theorem d_Model_trueTick_153 : decode prog_7_method_20_code 153 = .ok (.return_, 1) := by decide +kernel
theorem d_Model_areWithin_0 : decode prog_7_method_21_code 0 = .ok (.iconst 1, 1) := by decide +kernel
theorem d_Model_areWithin_1 : decode prog_7_method_21_code 1 = .ok (.istore_n 1, 1) := by decide +kernel
theorem d_Model_areWithin_2 : decode prog_7_method_21_code 2 = .ok (.iconst 0, 1) := by decide +kernel
theorem d_Model_areWithin_3 : decode prog_7_method_21_code 3 = .ok (.istore_n 2, 1) := by decide +kernel
theorem d_Model_areWithin_4 : decode prog_7_method_21_code 4 = .ok (.iload_n 2, 1) := by decide +kernel
theorem d_Model_areWithin_5 : decode prog_7_method_21_code 5 = .ok (.bipush 6, 2) := by decide +kernel
theorem d_Model_areWithin_7 : decode prog_7_method_21_code 7 = .ok (.if_icmp .ge 36, 3) := by decide +kernel
theorem d_Model_areWithin_10 : decode prog_7_method_21_code 10 = .ok (.iload_n 1, 1) := by decide +kernel
theorem d_Model_areWithin_11 : decode prog_7_method_21_code 11 = .ok (.ifCond .eq 24, 3) := by decide +kernel
theorem d_Model_areWithin_14 : decode prog_7_method_21_code 14 = .ok (.aload_n 0, 1) := by decide +kernel
theorem d_Model_areWithin_15 : decode prog_7_method_21_code 15 = .ok (.getfield 47, 3) := by decide +kernel
theorem d_Model_areWithin_18 : decode prog_7_method_21_code 18 = .ok (.iload_n 2, 1) := by decide +kernel
theorem d_Model_areWithin_19 : decode prog_7_method_21_code 19 = .ok (.laload, 1) := by decide +kernel
theorem d_Model_areWithin_20 : decode prog_7_method_21_code 20 = .ok (.aload_n 0, 1) := by decide +kernel
theorem d_Model_areWithin_21 : decode prog_7_method_21_code 21 = .ok (.getfield 28, 3) := by decide +kernel
theorem d_Model_areWithin_24 : decode prog_7_method_21_code 24 = .ok (.iload_n 2, 1) := by decide +kernel
theorem d_Model_areWithin_25 : decode prog_7_method_21_code 25 = .ok (.iaload, 1) := by decide +kernel
theorem d_Model_areWithin_26 : decode prog_7_method_21_code 26 = .ok (.i2l, 1) := by decide +kernel
theorem d_Model_areWithin_27 : decode prog_7_method_21_code 27 = .ok (.lcmp, 1) := by decide +kernel
theorem d_Model_areWithin_28 : decode prog_7_method_21_code 28 = .ok (.ifCond .gt 7, 3) := by decide +kernel
theorem d_Model_areWithin_31 : decode prog_7_method_21_code 31 = .ok (.iconst 1, 1) := by decide +kernel
theorem d_Model_areWithin_32 : decode prog_7_method_21_code 32 = .ok (.goto 4, 3) := by decide +kernel
theorem d_Model_areWithin_35 : decode prog_7_method_21_code 35 = .ok (.iconst 0, 1) := by decide +kernel
theorem d_Model_areWithin_36 : decode prog_7_method_21_code 36 = .ok (.istore_n 1, 1) := by decide +kernel
theorem d_Model_areWithin_37 : decode prog_7_method_21_code 37 = .ok (.iinc 2 1, 3) := by decide +kernel
theorem d_Model_areWithin_40 : decode prog_7_method_21_code 40 = .ok (.goto (-36), 3) := by decide +kernel
theorem d_Model_areWithin_43 : decode prog_7_method_21_code 43 = .ok (.iload_n 1, 1) := by decide +kernel
theorem d_Model_areWithin_44 : decode prog_7_method_21_code 44 = .ok (.ireturn, 1) := by decide +kernel
theorem d_Model_isSafe_0 : decode prog_7_method_22_code 0 = .ok (.iconst 0, 1) := by decide +kernel
theorem d_Model_isSafe_1 : decode prog_7_method_22_code 1 = .ok (.istore_n 1, 1) := by decide +kernel
theorem d_Model_isSafe_2 : decode prog_7_method_22_code 2 = .ok (.iload_n 1, 1) := by decide +kernel
theorem d_Model_isSafe_3 : decode prog_7_method_22_code 3 = .ok (.bipush 6, 2) := by decide +kernel
theorem d_Model_isSafe_5 : decode prog_7_method_22_code 5 = .ok (.if_icmp .ge 21, 3) := by decide +kernel
theorem d_Model_isSafe_8 : decode prog_7_method_22_code 8 = .ok (.aload_n 0, 1) := by decide +kernel
theorem d_Model_isSafe_9 : decode prog_7_method_22_code 9 = .ok (.getfield 47, 3) := by decide +kernel
theorem d_Model_isSafe_12 : decode prog_7_method_22_code 12 = .ok (.iload_n 1, 1) := by decide +kernel
theorem d_Model_isSafe_13 : decode prog_7_method_22_code 13 = .ok (.aload_n 0, 1) := by decide +kernel
theorem d_Model_isSafe_14 : decode prog_7_method_22_code 14 = .ok (.getfield 38, 3) := by decide +kernel
theorem d_Model_isSafe_17 : decode prog_7_method_22_code 17 = .ok (.iload_n 1, 1) := by decide +kernel
theorem d_Model_isSafe_18 : decode prog_7_method_22_code 18 = .ok (.laload, 1) := by decide +kernel
theorem d_Model_isSafe_19 : decode prog_7_method_22_code 19 = .ok (.lastore, 1) := by decide +kernel
theorem d_Model_isSafe_20 : decode prog_7_method_22_code 20 = .ok (.iinc 1 1, 3) := by decide +kernel
theorem d_Model_isSafe_23 : decode prog_7_method_22_code 23 = .ok (.goto (-21), 3) := by decide +kernel
theorem d_Model_isSafe_26 : decode prog_7_method_22_code 26 = .ok (.aload_n 0, 1) := by decide +kernel
theorem d_Model_isSafe_27 : decode prog_7_method_22_code 27 = .ok (.invokevirtual 146, 3) := by decide +kernel
theorem d_Model_isSafe_30 : decode prog_7_method_22_code 30 = .ok (.istore_n 1, 1) := by decide +kernel
theorem d_Model_isSafe_31 : decode prog_7_method_22_code 31 = .ok (.iconst 0, 1) := by decide +kernel
theorem d_Model_isSafe_32 : decode prog_7_method_22_code 32 = .ok (.istore_n 2, 1) := by decide +kernel
theorem d_Model_isSafe_33 : decode prog_7_method_22_code 33 = .ok (.iload_n 2, 1) := by decide +kernel
theorem d_Model_isSafe_34 : decode prog_7_method_22_code 34 = .ok (.bipush 8, 2) := by decide +kernel
theorem d_Model_isSafe_36 : decode prog_7_method_22_code 36 = .ok (.if_icmp .ge 31, 3) := by decide +kernel
theorem d_Model_isSafe_39 : decode prog_7_method_22_code 39 = .ok (.iload_n 1, 1) := by decide +kernel
theorem d_Model_isSafe_40 : decode prog_7_method_22_code 40 = .ok (.ifCond .eq 27, 3) := by decide +kernel
theorem d_Model_isSafe_43 : decode prog_7_method_22_code 43 = .ok (.aload_n 0, 1) := by decide +kernel
theorem d_Model_isSafe_44 : decode prog_7_method_22_code 44 = .ok (.aload_n 0, 1) := by decide +kernel
theorem d_Model_isSafe_45 : decode prog_7_method_22_code 45 = .ok (.getfield 47, 3) := by decide +kernel
theorem d_Model_isSafe_48 : decode prog_7_method_22_code 48 = .ok (.aload_n 0, 1) := by decide +kernel
theorem d_Model_isSafe_49 : decode prog_7_method_22_code 49 = .ok (.getfield 60, 3) := by decide +kernel
theorem d_Model_isSafe_52 : decode prog_7_method_22_code 52 = .ok (.invokevirtual 150, 3) := by decide +kernel
theorem d_Model_isSafe_55 : decode prog_7_method_22_code 55 = .ok (.pop, 1) := by decide +kernel
theorem d_Model_isSafe_56 : decode prog_7_method_22_code 56 = .ok (.aload_n 0, 1) := by decide +kernel
theorem d_Model_isSafe_57 : decode prog_7_method_22_code 57 = .ok (.invokevirtual 146, 3) := by decide +kernel
theorem d_Model_isSafe_60 : decode prog_7_method_22_code 60 = .ok (.istore_n 1, 1) := by decide +kernel
theorem d_Model_isSafe_61 : decode prog_7_method_22_code 61 = .ok (.iinc 2 1, 3) := by decide +kernel
theorem d_Model_isSafe_64 : decode prog_7_method_22_code 64 = .ok (.goto (-31), 3) := by decide +kernel
theorem d_Model_isSafe_67 : decode prog_7_method_22_code 67 = .ok (.iconst 0, 1) := by decide +kernel
theorem d_Model_isSafe_68 : decode prog_7_method_22_code 68 = .ok (.istore_n 2, 1) := by decide +kernel
theorem d_Model_isSafe_69 : decode prog_7_method_22_code 69 = .ok (.iload_n 2, 1) := by decide +kernel
theorem d_Model_isSafe_70 : decode prog_7_method_22_code 70 = .ok (.iconst 4, 1) := by decide +kernel
theorem d_Model_isSafe_71 : decode prog_7_method_22_code 71 = .ok (.if_icmp .ge 16, 3) := by decide +kernel
theorem d_Model_isSafe_74 : decode prog_7_method_22_code 74 = .ok (.aload_n 0, 1) := by decide +kernel
theorem d_Model_isSafe_75 : decode prog_7_method_22_code 75 = .ok (.getfield 60, 3) := by decide +kernel
theorem d_Model_isSafe_78 : decode prog_7_method_22_code 78 = .ok (.iload_n 2, 1) := by decide +kernel
theorem d_Model_isSafe_79 : decode prog_7_method_22_code 79 = .ok (.iconst 0, 1) := by decide +kernel
theorem d_Model_isSafe_80 : decode prog_7_method_22_code 80 = .ok (.iastore, 1) := by decide +kernel
theorem d_Model_isSafe_81 : decode prog_7_method_22_code 81 = .ok (.iinc 2 1, 3) := by decide +kernel
theorem d_Model_isSafe_84 : decode prog_7_method_22_code 84 = .ok (.goto (-15), 3) := by decide +kernel
theorem d_Model_isSafe_87 : decode prog_7_method_22_code 87 = .ok (.iconst 0, 1) := by decide +kernel
theorem d_Model_isSafe_88 : decode prog_7_method_22_code 88 = .ok (.istore_n 2, 1) := by decide +kernel
theorem d_Model_isSafe_89 : decode prog_7_method_22_code 89 = .ok (.iload_n 2, 1) := by decide +kernel
theorem d_Model_isSafe_90 : decode prog_7_method_22_code 90 = .ok (.sipush 250, 3) := by decide +kernel
theorem d_Model_isSafe_93 : decode prog_7_method_22_code 93 = .ok (.if_icmp .ge 41, 3) := by decide +kernel
theorem d_Model_isSafe_96 : decode prog_7_method_22_code 96 = .ok (.iload_n 1, 1) := by decide +kernel
theorem d_Model_isSafe_97 : decode prog_7_method_22_code 97 = .ok (.ifCond .eq 37, 3) := by decide +kernel
theorem d_Model_isSafe_100 : decode prog_7_method_22_code 100 = .ok (.aload_n 0, 1) := by decide +kernel
theorem d_Model_isSafe_101 : decode prog_7_method_22_code 101 = .ok (.aload_n 0, 1) := by decide +kernel
theorem d_Model_isSafe_102 : decode prog_7_method_22_code 102 = .ok (.getfield 47, 3) := by decide +kernel
theorem d_Model_isSafe_105 : decode prog_7_method_22_code 105 = .ok (.aload_n 0, 1) := by decide +kernel
theorem d_Model_isSafe_106 : decode prog_7_method_22_code 106 = .ok (.getfield 60, 3) := by decide +kernel
theorem d_Model_isSafe_109 : decode prog_7_method_22_code 109 = .ok (.invokevirtual 150, 3) := by decide +kernel
theorem d_Model_isSafe_112 : decode prog_7_method_22_code 112 = .ok (.istore_n 3, 1) := by decide +kernel
theorem d_Model_isSafe_113 : decode prog_7_method_22_code 113 = .ok (.aload_n 0, 1) := by decide +kernel
theorem d_Model_isSafe_114 : decode prog_7_method_22_code 114 = .ok (.invokevirtual 146, 3) := by decide +kernel
theorem d_Model_isSafe_117 : decode prog_7_method_22_code 117 = .ok (.istore_n 1, 1) := by decide +kernel
theorem d_Model_isSafe_118 : decode prog_7_method_22_code 118 = .ok (.iload_n 1, 1) := by decide +kernel
theorem d_Model_isSafe_119 : decode prog_7_method_22_code 119 = .ok (.ifCond .eq 9, 3) := by decide +kernel
theorem d_Model_isSafe_122 : decode prog_7_method_22_code 122 = .ok (.iload_n 3, 1) := by decide +kernel
theorem d_Model_isSafe_123 : decode prog_7_method_22_code 123 = .ok (.ifCond .ne 5, 3) := by decide +kernel
theorem d_Model_isSafe_126 : decode prog_7_method_22_code 126 = .ok (.iconst 1, 1) := by decide +kernel
theorem d_Model_isSafe_127 : decode prog_7_method_22_code 127 = .ok (.ireturn, 1) := by decide +kernel
theorem d_Model_isSafe_128 : decode prog_7_method_22_code 128 = .ok (.iinc 2 1, 3) := by decide +kernel
theorem d_Model_isSafe_131 : decode prog_7_method_22_code 131 = .ok (.goto (-42), 3) := by decide +kernel
theorem d_Model_isSafe_134 : decode prog_7_method_22_code 134 = .ok (.iconst 0, 1) := by decide +kernel
theorem d_Model_isSafe_135 : decode prog_7_method_22_code 135 = .ok (.ireturn, 1) := by decide +kernel
theorem d_Model_areJoined_0 : decode prog_7_method_23_code 0 = .ok (.bipush 64, 2) := by decide +kernel
theorem d_Model_areJoined_2 : decode prog_7_method_23_code 2 = .ok (.istore_n 1, 1) := by decide +kernel
theorem d_Model_areJoined_3 : decode prog_7_method_23_code 3 = .ok (.iconst 0, 1) := by decide +kernel
theorem d_Model_areJoined_4 : decode prog_7_method_23_code 4 = .ok (.istore_n 2, 1) := by decide +kernel
theorem d_Model_areJoined_5 : decode prog_7_method_23_code 5 = .ok (.iload_n 1, 1) := by decide +kernel
theorem d_Model_areJoined_6 : decode prog_7_method_23_code 6 = .ok (.iload_n 2, 1) := by decide +kernel
theorem d_Model_areJoined_7 : decode prog_7_method_23_code 7 = .ok (.if_icmp .eq 52, 3) := by decide +kernel
theorem d_Model_areJoined_10 : decode prog_7_method_23_code 10 = .ok (.iload_n 1, 1) := by decide +kernel
theorem d_Model_areJoined_11 : decode prog_7_method_23_code 11 = .ok (.istore_n 2, 1) := by decide +kernel
theorem d_Model_areJoined_12 : decode prog_7_method_23_code 12 = .ok (.iconst 0, 1) := by decide +kernel
theorem d_Model_areJoined_13 : decode prog_7_method_23_code 13 = .ok (.istore_n 3, 1) := by decide +kernel
theorem d_Model_areJoined_14 : decode prog_7_method_23_code 14 = .ok (.iload_n 3, 1) := by decide +kernel
theorem d_Model_areJoined_15 : decode prog_7_method_23_code 15 = .ok (.bipush 49, 2) := by decide +kernel
theorem d_Model_areJoined_17 : decode prog_7_method_23_code 17 = .ok (.if_icmp .ge 39, 3) := by decide +kernel
theorem d_Model_areJoined_20 : decode prog_7_method_23_code 20 = .ok (.aload_n 0, 1) := by decide +kernel
theorem d_Model_areJoined_21 : decode prog_7_method_23_code 21 = .ok (.getfield 22, 3) := by decide +kernel
theorem d_Model_areJoined_24 : decode prog_7_method_23_code 24 = .ok (.iload_n 3, 1) := by decide +kernel
theorem d_Model_areJoined_25 : decode prog_7_method_23_code 25 = .ok (.iaload, 1) := by decide +kernel
theorem d_Model_areJoined_26 : decode prog_7_method_23_code 26 = .ok (.ifCond .le 24, 3) := by decide +kernel
theorem d_Model_areJoined_29 : decode prog_7_method_23_code 29 = .ok (.iload_n 1, 1) := by decide +kernel
theorem d_Model_areJoined_30 : decode prog_7_method_23_code 30 = .ok (.iload_n 3, 1) := by decide +kernel
theorem d_Model_areJoined_31 : decode prog_7_method_23_code 31 = .ok (.bipush 7, 2) := by decide +kernel
theorem d_Model_areJoined_33 : decode prog_7_method_23_code 33 = .ok (.idiv, 1) := by decide +kernel
theorem d_Model_areJoined_34 : decode prog_7_method_23_code 34 = .ok (.ishr, 1) := by decide +kernel
theorem d_Model_areJoined_35 : decode prog_7_method_23_code 35 = .ok (.iconst 1, 1) := by decide +kernel
theorem d_Model_areJoined_36 : decode prog_7_method_23_code 36 = .ok (.iand, 1) := by decide +kernel
theorem d_Model_areJoined_37 : decode prog_7_method_23_code 37 = .ok (.iconst 1, 1) := by decide +kernel
theorem d_Model_areJoined_38 : decode prog_7_method_23_code 38 = .ok (.if_icmp .ne 12, 3) := by decide +kernel
theorem d_Model_areJoined_41 : decode prog_7_method_23_code 41 = .ok (.iload_n 1, 1) := by decide +kernel
theorem d_Model_areJoined_42 : decode prog_7_method_23_code 42 = .ok (.iconst 1, 1) := by decide +kernel
theorem d_Model_areJoined_43 : decode prog_7_method_23_code 43 = .ok (.iload_n 3, 1) := by decide +kernel
theorem d_Model_areJoined_44 : decode prog_7_method_23_code 44 = .ok (.bipush 7, 2) := by decide +kernel
theorem d_Model_areJoined_46 : decode prog_7_method_23_code 46 = .ok (.irem, 1) := by decide +kernel
theorem d_Model_areJoined_47 : decode prog_7_method_23_code 47 = .ok (.ishl, 1) := by decide +kernel
theorem d_Model_areJoined_48 : decode prog_7_method_23_code 48 = .ok (.ior, 1) := by decide +kernel
theorem d_Model_areJoined_49 : decode prog_7_method_23_code 49 = .ok (.istore_n 1, 1) := by decide +kernel
theorem d_Model_areJoined_50 : decode prog_7_method_23_code 50 = .ok (.iinc 3 1, 3) := by decide +kernel
theorem d_Model_areJoined_53 : decode prog_7_method_23_code 53 = .ok (.goto (-39), 3) := by decide +kernel
theorem d_Model_areJoined_56 : decode prog_7_method_23_code 56 = .ok (.goto (-51), 3) := by decide +kernel
theorem d_Model_areJoined_59 : decode prog_7_method_23_code 59 = .ok (.iload_n 1, 1) := by decide +kernel
theorem d_Model_areJoined_60 : decode prog_7_method_23_code 60 = .ok (.bipush 127, 2) := by decide +kernel
theorem d_Model_areJoined_62 : decode prog_7_method_23_code 62 = .ok (.if_icmp .ne 7, 3) := by decide +kernel
theorem d_Model_areJoined_65 : decode prog_7_method_23_code 65 = .ok (.iconst 1, 1) := by decide +kernel
theorem d_Model_areJoined_66 : decode prog_7_method_23_code 66 = .ok (.goto 4, 3) := by decide +kernel
theorem d_Model_areJoined_69 : decode prog_7_method_23_code 69 = .ok (.iconst 0, 1) := by decide +kernel
theorem d_Model_areJoined_70 : decode prog_7_method_23_code 70 = .ok (.ireturn, 1) := by decide +kernel
theorem d_Model_areSlow_0 : decode prog_7_method_24_code 0 = .ok (.iconst 1, 1) := by decide +kernel
theorem d_Model_areSlow_1 : decode prog_7_method_24_code 1 = .ok (.istore_n 1, 1) := by decide +kernel
theorem d_Model_areSlow_2 : decode prog_7_method_24_code 2 = .ok (.iconst 0, 1) := by decide +kernel
theorem d_Model_areSlow_3 : decode prog_7_method_24_code 3 = .ok (.istore_n 2, 1) := by decide +kernel
theorem d_Model_areSlow_4 : decode prog_7_method_24_code 4 = .ok (.iload_n 2, 1) := by decide +kernel
theorem d_Model_areSlow_5 : decode prog_7_method_24_code 5 = .ok (.bipush 6, 2) := by decide +kernel
theorem d_Model_areSlow_7 : decode prog_7_method_24_code 7 = .ok (.if_icmp .ge 81, 3) := by decide +kernel
theorem d_Model_areSlow_10 : decode prog_7_method_24_code 10 = .ok (.iload_n 2, 1) := by decide +kernel
theorem d_Model_areSlow_11 : decode prog_7_method_24_code 11 = .ok (.iconst 4, 1) := by decide +kernel
theorem d_Model_areSlow_12 : decode prog_7_method_24_code 12 = .ok (.if_icmp .ge 15, 3) := by decide +kernel
theorem d_Model_areSlow_15 : decode prog_7_method_24_code 15 = .ok (.aload_n 0, 1) := by decide +kernel
theorem d_Model_areSlow_16 : decode prog_7_method_24_code 16 = .ok (.getfield 98, 3) := by decide +kernel
theorem d_Model_areSlow_19 : decode prog_7_method_24_code 19 = .ok (.aload_n 0, 1) := by decide +kernel
theorem d_Model_areSlow_20 : decode prog_7_method_24_code 20 = .ok (.getfield 101, 3) := by decide +kernel
theorem d_Model_areSlow_23 : decode prog_7_method_24_code 23 = .ok (.iadd, 1) := by decide +kernel
theorem d_Model_areSlow_24 : decode prog_7_method_24_code 24 = .ok (.goto 4, 3) := by decide +kernel
theorem d_Model_areSlow_27 : decode prog_7_method_24_code 27 = .ok (.iconst 0, 1) := by decide +kernel
theorem d_Model_areSlow_28 : decode prog_7_method_24_code 28 = .ok (.istore_n 3, 1) := by decide +kernel
theorem d_Model_areSlow_29 : decode prog_7_method_24_code 29 = .ok (.iconst 0, 1) := by decide +kernel
theorem d_Model_areSlow_30 : decode prog_7_method_24_code 30 = .ok (.istore 4, 2) := by decide +kernel
theorem d_Model_areSlow_32 : decode prog_7_method_24_code 32 = .ok (.iload 4, 2) := by decide +kernel
theorem d_Model_areSlow_34 : decode prog_7_method_24_code 34 = .ok (.bipush 6, 2) := by decide +kernel
theorem d_Model_areSlow_36 : decode prog_7_method_24_code 36 = .ok (.if_icmp .gt 24, 3) := by decide +kernel
theorem d_Model_areSlow_39 : decode prog_7_method_24_code 39 = .ok (.iload_n 3, 1) := by decide +kernel
theorem d_Model_areSlow_40 : decode prog_7_method_24_code 40 = .ok (.aload_n 0, 1) := by decide +kernel
theorem d_Model_areSlow_41 : decode prog_7_method_24_code 41 = .ok (.getfield 22, 3) := by decide +kernel
theorem d_Model_areSlow_44 : decode prog_7_method_24_code 44 = .ok (.bipush 7, 2) := by decide +kernel
theorem d_Model_areSlow_46 : decode prog_7_method_24_code 46 = .ok (.iload_n 2, 1) := by decide +kernel
theorem d_Model_areSlow_47 : decode prog_7_method_24_code 47 = .ok (.imul, 1) := by decide +kernel
theorem d_Model_areSlow_48 : decode prog_7_method_24_code 48 = .ok (.iload 4, 2) := by decide +kernel
theorem d_Model_areSlow_50 : decode prog_7_method_24_code 50 = .ok (.iadd, 1) := by decide +kernel
theorem d_Model_areSlow_51 : decode prog_7_method_24_code 51 = .ok (.iaload, 1) := by decide +kernel
theorem d_Model_areSlow_52 : decode prog_7_method_24_code 52 = .ok (.iadd, 1) := by decide +kernel
theorem d_Model_areSlow_53 : decode prog_7_method_24_code 53 = .ok (.istore_n 3, 1) := by decide +kernel
theorem d_Model_areSlow_54 : decode prog_7_method_24_code 54 = .ok (.iinc 4 1, 3) := by decide +kernel
theorem d_Model_areSlow_57 : decode prog_7_method_24_code 57 = .ok (.goto (-25), 3) := by decide +kernel
theorem d_Model_areSlow_60 : decode prog_7_method_24_code 60 = .ok (.iload_n 1, 1) := by decide +kernel
theorem d_Model_areSlow_61 : decode prog_7_method_24_code 61 = .ok (.ifCond .eq 19, 3) := by decide +kernel
theorem d_Model_areSlow_64 : decode prog_7_method_24_code 64 = .ok (.iconst 2, 1) := by decide +kernel
theorem d_Model_areSlow_65 : decode prog_7_method_24_code 65 = .ok (.iload_n 3, 1) := by decide +kernel
theorem d_Model_areSlow_66 : decode prog_7_method_24_code 66 = .ok (.imul, 1) := by decide +kernel
theorem d_Model_areSlow_67 : decode prog_7_method_24_code 67 = .ok (.aload_n 0, 1) := by decide +kernel
theorem d_Model_areSlow_68 : decode prog_7_method_24_code 68 = .ok (.getfield 7, 3) := by decide +kernel
theorem d_Model_areSlow_71 : decode prog_7_method_24_code 71 = .ok (.iload_n 2, 1) := by decide +kernel
theorem d_Model_areSlow_72 : decode prog_7_method_24_code 72 = .ok (.iaload, 1) := by decide +kernel
theorem d_Model_areSlow_73 : decode prog_7_method_24_code 73 = .ok (.if_icmp .gt 7, 3) := by decide +kernel
theorem d_Model_areSlow_76 : decode prog_7_method_24_code 76 = .ok (.iconst 1, 1) := by decide +kernel
theorem d_Model_areSlow_77 : decode prog_7_method_24_code 77 = .ok (.goto 4, 3) := by decide +kernel
theorem d_Model_areSlow_80 : decode prog_7_method_24_code 80 = .ok (.iconst 0, 1) := by decide +kernel
theorem d_Model_areSlow_81 : decode prog_7_method_24_code 81 = .ok (.istore_n 1, 1) := by decide +kernel
theorem d_Model_areSlow_82 : decode prog_7_method_24_code 82 = .ok (.iinc 2 1, 3) := by decide +kernel
theorem d_Model_areSlow_85 : decode prog_7_method_24_code 85 = .ok (.goto (-81), 3) := by decide +kernel
theorem d_Model_areSlow_88 : decode prog_7_method_24_code 88 = .ok (.iload_n 1, 1) := by decide +kernel
theorem d_Model_areSlow_89 : decode prog_7_method_24_code 89 = .ok (.ireturn, 1) := by decide +kernel
theorem d_Model_seal_0 : decode prog_7_method_25_code 0 = .ok (.aload_n 0, 1) := by decide +kernel
theorem d_Model_seal_1 : decode prog_7_method_25_code 1 = .ok (.aload_n 0, 1) := by decide +kernel
theorem d_Model_seal_2 : decode prog_7_method_25_code 2 = .ok (.getfield 82, 3) := by decide +kernel
theorem d_Model_seal_5 : decode prog_7_method_25_code 5 = .ok (.ifCond .eq 7, 3) := by decide +kernel
theorem d_Model_seal_8 : decode prog_7_method_25_code 8 = .ok (.iconst 1, 1) := by decide +kernel
theorem d_Model_seal_9 : decode prog_7_method_25_code 9 = .ok (.goto 4, 3) := by decide +kernel
theorem d_Model_seal_12 : decode prog_7_method_25_code 12 = .ok (.iconst 0, 1) := by decide +kernel
theorem d_Model_seal_13 : decode prog_7_method_25_code 13 = .ok (.putfield 78, 3) := by decide +kernel
theorem d_Model_seal_16 : decode prog_7_method_25_code 16 = .ok (.aload_n 0, 1) := by decide +kernel
theorem d_Model_seal_17 : decode prog_7_method_25_code 17 = .ok (.getfield 78, 3) := by decide +kernel
theorem d_Model_seal_20 : decode prog_7_method_25_code 20 = .ok (.ifCond .gt 17, 3) := by decide +kernel
theorem d_Model_seal_23 : decode prog_7_method_25_code 23 = .ok (.aload_n 0, 1) := by decide +kernel
theorem d_Model_seal_24 : decode prog_7_method_25_code 24 = .ok (.invokevirtual 154, 3) := by decide +kernel
theorem d_Model_seal_27 : decode prog_7_method_25_code 27 = .ok (.ifCond .eq 10, 3) := by decide +kernel
theorem d_Model_seal_30 : decode prog_7_method_25_code 30 = .ok (.aload_n 0, 1) := by decide +kernel
theorem d_Model_seal_31 : decode prog_7_method_25_code 31 = .ok (.invokevirtual 157, 3) := by decide +kernel
theorem d_Model_seal_34 : decode prog_7_method_25_code 34 = .ok (.ifCond .ne 5, 3) := by decide +kernel
theorem d_Model_seal_37 : decode prog_7_method_25_code 37 = .ok (.iconst 0, 1) := by decide +kernel
theorem d_Model_seal_38 : decode prog_7_method_25_code 38 = .ok (.ireturn, 1) := by decide +kernel
theorem d_Model_seal_39 : decode prog_7_method_25_code 39 = .ok (.iconst 0, 1) := by decide +kernel
theorem d_Model_seal_40 : decode prog_7_method_25_code 40 = .ok (.istore_n 1, 1) := by decide +kernel
theorem d_Model_seal_41 : decode prog_7_method_25_code 41 = .ok (.iload_n 1, 1) := by decide +kernel
theorem d_Model_seal_42 : decode prog_7_method_25_code 42 = .ok (.bipush 6, 2) := by decide +kernel
theorem d_Model_seal_44 : decode prog_7_method_25_code 44 = .ok (.if_icmp .ge 20, 3) := by decide +kernel
theorem d_Model_seal_47 : decode prog_7_method_25_code 47 = .ok (.aload_n 0, 1) := by decide +kernel
theorem d_Model_seal_48 : decode prog_7_method_25_code 48 = .ok (.getfield 38, 3) := by decide +kernel
theorem d_Model_seal_51 : decode prog_7_method_25_code 51 = .ok (.iload_n 1, 1) := by decide +kernel
theorem d_Model_seal_52 : decode prog_7_method_25_code 52 = .ok (.aload_n 0, 1) := by decide +kernel
theorem d_Model_seal_53 : decode prog_7_method_25_code 53 = .ok (.getfield 92, 3) := by decide +kernel
theorem d_Model_seal_56 : decode prog_7_method_25_code 56 = .ok (.i2l, 1) := by decide +kernel
theorem d_Model_seal_57 : decode prog_7_method_25_code 57 = .ok (.lastore, 1) := by decide +kernel
theorem d_Model_seal_58 : decode prog_7_method_25_code 58 = .ok (.iinc 1 1, 3) := by decide +kernel
theorem d_Model_seal_61 : decode prog_7_method_25_code 61 = .ok (.goto (-20), 3) := by decide +kernel
theorem d_Model_seal_64 : decode prog_7_method_25_code 64 = .ok (.aload_n 0, 1) := by decide +kernel
theorem d_Model_seal_65 : decode prog_7_method_25_code 65 = .ok (.invokevirtual 160, 3) := by decide +kernel
theorem d_Model_seal_68 : decode prog_7_method_25_code 68 = .ok (.ifCond .ne 5, 3) := by decide +kernel
theorem d_Model_seal_71 : decode prog_7_method_25_code 71 = .ok (.iconst 0, 1) := by decide +kernel
theorem d_Model_seal_72 : decode prog_7_method_25_code 72 = .ok (.ireturn, 1) := by decide +kernel
theorem d_Model_seal_73 : decode prog_7_method_25_code 73 = .ok (.aload_n 0, 1) := by decide +kernel
theorem d_Model_seal_74 : decode prog_7_method_25_code 74 = .ok (.iconst 1, 1) := by decide +kernel
theorem d_Model_seal_75 : decode prog_7_method_25_code 75 = .ok (.putfield 82, 3) := by decide +kernel
theorem d_Model_seal_78 : decode prog_7_method_25_code 78 = .ok (.iconst 0, 1) := by decide +kernel
theorem d_Model_seal_79 : decode prog_7_method_25_code 79 = .ok (.istore_n 1, 1) := by decide +kernel
theorem d_Model_seal_80 : decode prog_7_method_25_code 80 = .ok (.iload_n 1, 1) := by decide +kernel
theorem d_Model_seal_81 : decode prog_7_method_25_code 81 = .ok (.bipush 6, 2) := by decide +kernel
theorem d_Model_seal_83 : decode prog_7_method_25_code 83 = .ok (.if_icmp .ge 31, 3) := by decide +kernel
theorem d_Model_seal_86 : decode prog_7_method_25_code 86 = .ok (.aload_n 0, 1) := by decide +kernel
theorem d_Model_seal_87 : decode prog_7_method_25_code 87 = .ok (.getfield 34, 3) := by decide +kernel
theorem d_Model_seal_90 : decode prog_7_method_25_code 90 = .ok (.iload_n 1, 1) := by decide +kernel
theorem d_Model_seal_91 : decode prog_7_method_25_code 91 = .ok (.aload_n 0, 1) := by decide +kernel
theorem d_Model_seal_92 : decode prog_7_method_25_code 92 = .ok (.getfield 89, 3) := by decide +kernel
theorem d_Model_seal_95 : decode prog_7_method_25_code 95 = .ok (.i2l, 1) := by decide +kernel
theorem d_Model_seal_96 : decode prog_7_method_25_code 96 = .ok (.lastore, 1) := by decide +kernel
theorem d_Model_seal_97 : decode prog_7_method_25_code 97 = .ok (.aload_n 0, 1) := by decide +kernel
theorem d_Model_seal_98 : decode prog_7_method_25_code 98 = .ok (.getfield 41, 3) := by decide +kernel
theorem d_Model_seal_101 : decode prog_7_method_25_code 101 = .ok (.iload_n 1, 1) := by decide +kernel
theorem d_Model_seal_102 : decode prog_7_method_25_code 102 = .ok (.aload_n 0, 1) := by decide +kernel
theorem d_Model_seal_103 : decode prog_7_method_25_code 103 = .ok (.getfield 92, 3) := by decide +kernel
theorem d_Model_seal_106 : decode prog_7_method_25_code 106 = .ok (.i2l, 1) := by decide +kernel
theorem d_Model_seal_107 : decode prog_7_method_25_code 107 = .ok (.lastore, 1) := by decide +kernel
theorem d_Model_seal_108 : decode prog_7_method_25_code 108 = .ok (.iinc 1 1, 3) := by decide +kernel
theorem d_Model_seal_111 : decode prog_7_method_25_code 111 = .ok (.goto (-31), 3) := by decide +kernel
theorem d_Model_seal_114 : decode prog_7_method_25_code 114 = .ok (.iconst 1, 1) := by decide +kernel
theorem d_Model_seal_115 : decode prog_7_method_25_code 115 = .ok (.ireturn, 1) := by decide +kernel
theorem d_Model_shut_0 : decode prog_7_method_26_code 0 = .ok (.aload_n 0, 1) := by decide +kernel
theorem d_Model_shut_1 : decode prog_7_method_26_code 1 = .ok (.iload_n 1, 1) := by decide +kernel
theorem d_Model_shut_2 : decode prog_7_method_26_code 2 = .ok (.ifCond .ne 7, 3) := by decide +kernel
theorem d_Model_shut_5 : decode prog_7_method_26_code 5 = .ok (.iconst 1, 1) := by decide +kernel
theorem d_Model_shut_6 : decode prog_7_method_26_code 6 = .ok (.goto 23, 3) := by decide +kernel
theorem d_Model_shut_9 : decode prog_7_method_26_code 9 = .ok (.iload_n 2, 1) := by decide +kernel
theorem d_Model_shut_10 : decode prog_7_method_26_code 10 = .ok (.ifCond .ne 7, 3) := by decide +kernel
theorem d_Model_shut_13 : decode prog_7_method_26_code 13 = .ok (.iconst 2, 1) := by decide +kernel
theorem d_Model_shut_14 : decode prog_7_method_26_code 14 = .ok (.goto 15, 3) := by decide +kernel
theorem d_Model_shut_17 : decode prog_7_method_26_code 17 = .ok (.aload_n 0, 1) := by decide +kernel
theorem d_Model_shut_18 : decode prog_7_method_26_code 18 = .ok (.getfield 82, 3) := by decide +kernel
theorem d_Model_shut_21 : decode prog_7_method_26_code 21 = .ok (.ifCond .ne 7, 3) := by decide +kernel
theorem d_Model_shut_24 : decode prog_7_method_26_code 24 = .ok (.iconst 3, 1) := by decide +kernel
theorem d_Model_shut_25 : decode prog_7_method_26_code 25 = .ok (.goto 4, 3) := by decide +kernel
theorem d_Model_shut_28 : decode prog_7_method_26_code 28 = .ok (.iconst 0, 1) := by decide +kernel
theorem d_Model_shut_29 : decode prog_7_method_26_code 29 = .ok (.putfield 78, 3) := by decide +kernel
theorem d_Model_shut_32 : decode prog_7_method_26_code 32 = .ok (.aload_n 0, 1) := by decide +kernel
theorem d_Model_shut_33 : decode prog_7_method_26_code 33 = .ok (.getfield 78, 3) := by decide +kernel
theorem d_Model_shut_36 : decode prog_7_method_26_code 36 = .ok (.ireturn, 1) := by decide +kernel
theorem d_Model_ask_0 : decode prog_7_method_27_code 0 = .ok (.aload_n 0, 1) := by decide +kernel
theorem d_Model_ask_1 : decode prog_7_method_27_code 1 = .ok (.iload_n 1, 1) := by decide +kernel
theorem d_Model_ask_2 : decode prog_7_method_27_code 2 = .ok (.invokestatic 126, 3) := by decide +kernel
theorem d_Model_ask_5 : decode prog_7_method_27_code 5 = .ok (.iload_n 2, 1) := by decide +kernel
theorem d_Model_ask_6 : decode prog_7_method_27_code 6 = .ok (.iconst 0, 1) := by decide +kernel
theorem d_Model_ask_7 : decode prog_7_method_27_code 7 = .ok (.iconst 3, 1) := by decide +kernel
theorem d_Model_ask_8 : decode prog_7_method_27_code 8 = .ok (.invokestatic 114, 3) := by decide +kernel
theorem d_Model_ask_11 : decode prog_7_method_27_code 11 = .ok (.ifCond .eq 17, 3) := by decide +kernel
theorem d_Model_ask_14 : decode prog_7_method_27_code 14 = .ok (.iload_n 3, 1) := by decide +kernel
theorem d_Model_ask_15 : decode prog_7_method_27_code 15 = .ok (.iconst 0, 1) := by decide +kernel
theorem d_Model_ask_16 : decode prog_7_method_27_code 16 = .ok (.bipush 9, 2) := by decide +kernel
theorem d_Model_ask_18 : decode prog_7_method_27_code 18 = .ok (.invokestatic 114, 3) := by decide +kernel
theorem d_Model_ask_21 : decode prog_7_method_27_code 21 = .ok (.ifCond .eq 7, 3) := by decide +kernel
theorem d_Model_ask_24 : decode prog_7_method_27_code 24 = .ok (.iconst 1, 1) := by decide +kernel
theorem d_Model_ask_25 : decode prog_7_method_27_code 25 = .ok (.goto 4, 3) := by decide +kernel
theorem d_Model_ask_28 : decode prog_7_method_27_code 28 = .ok (.iconst 0, 1) := by decide +kernel
theorem d_Model_ask_29 : decode prog_7_method_27_code 29 = .ok (.invokevirtual 163, 3) := by decide +kernel
theorem d_Model_ask_32 : decode prog_7_method_27_code 32 = .ok (.ifCond .le 4, 3) := by decide +kernel
theorem d_Model_ask_35 : decode prog_7_method_27_code 35 = .ok (.return_, 1) := by decide +kernel
theorem d_Model_ask_36 : decode prog_7_method_27_code 36 = .ok (.aload_n 0, 1) := by decide +kernel
theorem d_Model_ask_37 : decode prog_7_method_27_code 37 = .ok (.getfield 63, 3) := by decide +kernel
theorem d_Model_ask_40 : decode prog_7_method_27_code 40 = .ok (.iload_n 1, 1) := by decide +kernel
theorem d_Model_ask_41 : decode prog_7_method_27_code 41 = .ok (.iload_n 2, 1) := by decide +kernel
theorem d_Model_ask_42 : decode prog_7_method_27_code 42 = .ok (.iastore, 1) := by decide +kernel
theorem d_Model_ask_43 : decode prog_7_method_27_code 43 = .ok (.aload_n 0, 1) := by decide +kernel
theorem d_Model_ask_44 : decode prog_7_method_27_code 44 = .ok (.getfield 66, 3) := by decide +kernel
theorem d_Model_ask_47 : decode prog_7_method_27_code 47 = .ok (.iload_n 1, 1) := by decide +kernel
theorem d_Model_ask_48 : decode prog_7_method_27_code 48 = .ok (.iload_n 3, 1) := by decide +kernel
theorem d_Model_ask_49 : decode prog_7_method_27_code 49 = .ok (.iastore, 1) := by decide +kernel
theorem d_Model_ask_50 : decode prog_7_method_27_code 50 = .ok (.return_, 1) := by decide +kernel
theorem d_Model_isBefore_0 : decode prog_7_method_28_code 0 = .ok (.aload_n 0, 1) := by decide +kernel
theorem d_Model_isBefore_1 : decode prog_7_method_28_code 1 = .ok (.getfield 66, 3) := by decide +kernel
theorem d_Model_isBefore_4 : decode prog_7_method_28_code 4 = .ok (.iload_n 1, 1) := by decide +kernel
theorem d_Model_isBefore_5 : decode prog_7_method_28_code 5 = .ok (.iaload, 1) := by decide +kernel
theorem d_Model_isBefore_6 : decode prog_7_method_28_code 6 = .ok (.aload_n 0, 1) := by decide +kernel
theorem d_Model_isBefore_7 : decode prog_7_method_28_code 7 = .ok (.getfield 66, 3) := by decide +kernel
theorem d_Model_isBefore_10 : decode prog_7_method_28_code 10 = .ok (.iload_n 2, 1) := by decide +kernel
theorem d_Model_isBefore_11 : decode prog_7_method_28_code 11 = .ok (.iaload, 1) := by decide +kernel
theorem d_Model_isBefore_12 : decode prog_7_method_28_code 12 = .ok (.if_icmp .eq 24, 3) := by decide +kernel
theorem d_Model_isBefore_15 : decode prog_7_method_28_code 15 = .ok (.aload_n 0, 1) := by decide +kernel
theorem d_Model_isBefore_16 : decode prog_7_method_28_code 16 = .ok (.getfield 66, 3) := by decide +kernel
theorem d_Model_isBefore_19 : decode prog_7_method_28_code 19 = .ok (.iload_n 1, 1) := by decide +kernel
theorem d_Model_isBefore_20 : decode prog_7_method_28_code 20 = .ok (.iaload, 1) := by decide +kernel
theorem d_Model_isBefore_21 : decode prog_7_method_28_code 21 = .ok (.aload_n 0, 1) := by decide +kernel
theorem d_Model_isBefore_22 : decode prog_7_method_28_code 22 = .ok (.getfield 66, 3) := by decide +kernel
theorem d_Model_isBefore_25 : decode prog_7_method_28_code 25 = .ok (.iload_n 2, 1) := by decide +kernel
theorem d_Model_isBefore_26 : decode prog_7_method_28_code 26 = .ok (.iaload, 1) := by decide +kernel
theorem d_Model_isBefore_27 : decode prog_7_method_28_code 27 = .ok (.if_icmp .le 7, 3) := by decide +kernel
theorem d_Model_isBefore_30 : decode prog_7_method_28_code 30 = .ok (.iconst 1, 1) := by decide +kernel
theorem d_Model_isBefore_31 : decode prog_7_method_28_code 31 = .ok (.goto 4, 3) := by decide +kernel
theorem d_Model_isBefore_34 : decode prog_7_method_28_code 34 = .ok (.iconst 0, 1) := by decide +kernel
theorem d_Model_isBefore_35 : decode prog_7_method_28_code 35 = .ok (.ireturn, 1) := by decide +kernel
theorem d_Model_isBefore_36 : decode prog_7_method_28_code 36 = .ok (.aload_n 0, 1) := by decide +kernel
theorem d_Model_isBefore_37 : decode prog_7_method_28_code 37 = .ok (.getfield 69, 3) := by decide +kernel
theorem d_Model_isBefore_40 : decode prog_7_method_28_code 40 = .ok (.iload_n 1, 1) := by decide +kernel
theorem d_Model_isBefore_41 : decode prog_7_method_28_code 41 = .ok (.iaload, 1) := by decide +kernel
theorem d_Model_isBefore_42 : decode prog_7_method_28_code 42 = .ok (.aload_n 0, 1) := by decide +kernel
theorem d_Model_isBefore_43 : decode prog_7_method_28_code 43 = .ok (.getfield 69, 3) := by decide +kernel
theorem d_Model_isBefore_46 : decode prog_7_method_28_code 46 = .ok (.iload_n 2, 1) := by decide +kernel
theorem d_Model_isBefore_47 : decode prog_7_method_28_code 47 = .ok (.iaload, 1) := by decide +kernel
theorem d_Model_isBefore_48 : decode prog_7_method_28_code 48 = .ok (.if_icmp .eq 26, 3) := by decide +kernel
theorem d_Model_isBefore_51 : decode prog_7_method_28_code 51 = .ok (.aload_n 0, 1) := by decide +kernel
theorem d_Model_isBefore_52 : decode prog_7_method_28_code 52 = .ok (.getfield 69, 3) := by decide +kernel
theorem d_Model_isBefore_55 : decode prog_7_method_28_code 55 = .ok (.iload_n 1, 1) := by decide +kernel
theorem d_Model_isBefore_56 : decode prog_7_method_28_code 56 = .ok (.iaload, 1) := by decide +kernel
theorem d_Model_isBefore_57 : decode prog_7_method_28_code 57 = .ok (.aload_n 0, 1) := by decide +kernel
theorem d_Model_isBefore_58 : decode prog_7_method_28_code 58 = .ok (.getfield 69, 3) := by decide +kernel
theorem d_Model_isBefore_61 : decode prog_7_method_28_code 61 = .ok (.iload_n 2, 1) := by decide +kernel
theorem d_Model_isBefore_62 : decode prog_7_method_28_code 62 = .ok (.iaload, 1) := by decide +kernel
theorem d_Model_isBefore_63 : decode prog_7_method_28_code 63 = .ok (.if_icmp .le 7, 3) := by decide +kernel
theorem d_Model_isBefore_66 : decode prog_7_method_28_code 66 = .ok (.iconst 1, 1) := by decide +kernel
theorem d_Model_isBefore_67 : decode prog_7_method_28_code 67 = .ok (.goto 17, 3) := by decide +kernel
theorem d_Model_isBefore_70 : decode prog_7_method_28_code 70 = .ok (.iconst 0, 1) := by decide +kernel
theorem d_Model_isBefore_71 : decode prog_7_method_28_code 71 = .ok (.goto 13, 3) := by decide +kernel
theorem d_Model_isBefore_74 : decode prog_7_method_28_code 74 = .ok (.iload_n 1, 1) := by decide +kernel
theorem d_Model_isBefore_75 : decode prog_7_method_28_code 75 = .ok (.iload_n 2, 1) := by decide +kernel
theorem d_Model_isBefore_76 : decode prog_7_method_28_code 76 = .ok (.if_icmp .ge 7, 3) := by decide +kernel
theorem d_Model_isBefore_79 : decode prog_7_method_28_code 79 = .ok (.iconst 1, 1) := by decide +kernel
theorem d_Model_isBefore_80 : decode prog_7_method_28_code 80 = .ok (.goto 4, 3) := by decide +kernel
theorem d_Model_isBefore_83 : decode prog_7_method_28_code 83 = .ok (.iconst 0, 1) := by decide +kernel
theorem d_Model_isBefore_84 : decode prog_7_method_28_code 84 = .ok (.ireturn, 1) := by decide +kernel
theorem d_Model_grantOne_0 : decode prog_7_method_29_code 0 = .ok (.aload_n 0, 1) := by decide +kernel
theorem d_Model_grantOne_1 : decode prog_7_method_29_code 1 = .ok (.getfield 63, 3) := by decide +kernel
theorem d_Model_grantOne_4 : decode prog_7_method_29_code 4 = .ok (.iload_n 1, 1) := by decide +kernel
theorem d_Model_grantOne_5 : decode prog_7_method_29_code 5 = .ok (.iaload, 1) := by decide +kernel
theorem d_Model_grantOne_6 : decode prog_7_method_29_code 6 = .ok (.istore_n 2, 1) := by decide +kernel
theorem d_Model_grantOne_7 : decode prog_7_method_29_code 7 = .ok (.iconst 0, 1) := by decide +kernel
theorem d_Model_grantOne_8 : decode prog_7_method_29_code 8 = .ok (.istore_n 3, 1) := by decide +kernel
theorem d_Model_grantOne_9 : decode prog_7_method_29_code 9 = .ok (.iload_n 2, 1) := by decide +kernel
theorem d_Model_grantOne_10 : decode prog_7_method_29_code 10 = .ok (.ifCond .le 63, 3) := by decide +kernel
theorem d_Model_grantOne_13 : decode prog_7_method_29_code 13 = .ok (.iload_n 3, 1) := by decide +kernel
theorem d_Model_grantOne_14 : decode prog_7_method_29_code 14 = .ok (.ifCond .ne 59, 3) := by decide +kernel
theorem d_Model_grantOne_17 : decode prog_7_method_29_code 17 = .ok (.iconst 0, 1) := by decide +kernel
theorem d_Model_grantOne_18 : decode prog_7_method_29_code 18 = .ok (.istore 4, 2) := by decide +kernel
theorem d_Model_grantOne_20 : decode prog_7_method_29_code 20 = .ok (.iload 4, 2) := by decide +kernel
theorem d_Model_grantOne_22 : decode prog_7_method_29_code 22 = .ok (.iconst 4, 1) := by decide +kernel
theorem d_Model_grantOne_23 : decode prog_7_method_29_code 23 = .ok (.if_icmp .ge 23, 3) := by decide +kernel
theorem d_Model_grantOne_26 : decode prog_7_method_29_code 26 = .ok (.aload_n 0, 1) := by decide +kernel
theorem d_Model_grantOne_27 : decode prog_7_method_29_code 27 = .ok (.getfield 60, 3) := by decide +kernel
theorem d_Model_grantOne_30 : decode prog_7_method_29_code 30 = .ok (.iload 4, 2) := by decide +kernel
theorem d_Model_grantOne_32 : decode prog_7_method_29_code 32 = .ok (.aload_n 0, 1) := by decide +kernel
theorem d_Model_grantOne_33 : decode prog_7_method_29_code 33 = .ok (.getfield 57, 3) := by decide +kernel
theorem d_Model_grantOne_36 : decode prog_7_method_29_code 36 = .ok (.iload 4, 2) := by decide +kernel
theorem d_Model_grantOne_38 : decode prog_7_method_29_code 38 = .ok (.iaload, 1) := by decide +kernel
theorem d_Model_grantOne_39 : decode prog_7_method_29_code 39 = .ok (.iastore, 1) := by decide +kernel
theorem d_Model_grantOne_40 : decode prog_7_method_29_code 40 = .ok (.iinc 4 1, 3) := by decide +kernel
theorem d_Model_grantOne_43 : decode prog_7_method_29_code 43 = .ok (.goto (-23), 3) := by decide +kernel
theorem d_Model_grantOne_46 : decode prog_7_method_29_code 46 = .ok (.aload_n 0, 1) := by decide +kernel
theorem d_Model_grantOne_47 : decode prog_7_method_29_code 47 = .ok (.getfield 60, 3) := by decide +kernel
theorem d_Model_grantOne_50 : decode prog_7_method_29_code 50 = .ok (.iload_n 1, 1) := by decide +kernel
theorem d_Model_grantOne_51 : decode prog_7_method_29_code 51 = .ok (.iload_n 2, 1) := by decide +kernel
theorem d_Model_grantOne_52 : decode prog_7_method_29_code 52 = .ok (.iastore, 1) := by decide +kernel
theorem d_Model_grantOne_53 : decode prog_7_method_29_code 53 = .ok (.aload_n 0, 1) := by decide +kernel
theorem d_Model_grantOne_54 : decode prog_7_method_29_code 54 = .ok (.invokevirtual 160, 3) := by decide +kernel
theorem d_Model_grantOne_57 : decode prog_7_method_29_code 57 = .ok (.istore_n 3, 1) := by decide +kernel
theorem d_Model_grantOne_58 : decode prog_7_method_29_code 58 = .ok (.iload_n 3, 1) := by decide +kernel
theorem d_Model_grantOne_59 : decode prog_7_method_29_code 59 = .ok (.ifCond .eq 7, 3) := by decide +kernel
theorem d_Model_grantOne_62 : decode prog_7_method_29_code 62 = .ok (.iload_n 2, 1) := by decide +kernel
theorem d_Model_grantOne_63 : decode prog_7_method_29_code 63 = .ok (.goto 6, 3) := by decide +kernel
theorem d_Model_grantOne_66 : decode prog_7_method_29_code 66 = .ok (.iload_n 2, 1) := by decide +kernel
theorem d_Model_grantOne_67 : decode prog_7_method_29_code 67 = .ok (.iconst 1, 1) := by decide +kernel
theorem d_Model_grantOne_68 : decode prog_7_method_29_code 68 = .ok (.isub, 1) := by decide +kernel
theorem d_Model_grantOne_69 : decode prog_7_method_29_code 69 = .ok (.istore_n 2, 1) := by decide +kernel
theorem d_Model_grantOne_70 : decode prog_7_method_29_code 70 = .ok (.goto (-61), 3) := by decide +kernel
theorem d_Model_grantOne_73 : decode prog_7_method_29_code 73 = .ok (.aload_n 0, 1) := by decide +kernel
theorem d_Model_grantOne_74 : decode prog_7_method_29_code 74 = .ok (.getfield 57, 3) := by decide +kernel
theorem d_Model_grantOne_77 : decode prog_7_method_29_code 77 = .ok (.iload_n 1, 1) := by decide +kernel
theorem d_Model_grantOne_78 : decode prog_7_method_29_code 78 = .ok (.iload_n 2, 1) := by decide +kernel
theorem d_Model_grantOne_79 : decode prog_7_method_29_code 79 = .ok (.iastore, 1) := by decide +kernel
theorem d_Model_grantOne_80 : decode prog_7_method_29_code 80 = .ok (.return_, 1) := by decide +kernel
theorem d_Model_period_0 : decode prog_7_method_30_code 0 = .ok (.aload_n 0, 1) := by decide +kernel
theorem d_Model_period_1 : decode prog_7_method_30_code 1 = .ok (.aload_n 0, 1) := by decide +kernel
theorem d_Model_period_2 : decode prog_7_method_30_code 2 = .ok (.getfield 82, 3) := by decide +kernel
theorem d_Model_period_5 : decode prog_7_method_30_code 5 = .ok (.ifCond .eq 7, 3) := by decide +kernel
theorem d_Model_period_8 : decode prog_7_method_30_code 8 = .ok (.iconst 0, 1) := by decide +kernel
theorem d_Model_period_9 : decode prog_7_method_30_code 9 = .ok (.goto 4, 3) := by decide +kernel
theorem d_Model_period_12 : decode prog_7_method_30_code 12 = .ok (.iconst 1, 1) := by decide +kernel
theorem d_Model_period_13 : decode prog_7_method_30_code 13 = .ok (.putfield 78, 3) := by decide +kernel
theorem d_Model_period_16 : decode prog_7_method_30_code 16 = .ok (.aload_n 0, 1) := by decide +kernel
theorem d_Model_period_17 : decode prog_7_method_30_code 17 = .ok (.getfield 78, 3) := by decide +kernel
theorem d_Model_period_20 : decode prog_7_method_30_code 20 = .ok (.ifCond .le 5, 3) := by decide +kernel
theorem d_Model_period_23 : decode prog_7_method_30_code 23 = .ok (.iconst 0, 1) := by decide +kernel
theorem d_Model_period_24 : decode prog_7_method_30_code 24 = .ok (.ireturn, 1) := by decide +kernel
theorem d_Model_period_25 : decode prog_7_method_30_code 25 = .ok (.iconst 0, 1) := by decide +kernel
theorem d_Model_period_26 : decode prog_7_method_30_code 26 = .ok (.istore_n 1, 1) := by decide +kernel
theorem d_Model_period_27 : decode prog_7_method_30_code 27 = .ok (.iload_n 1, 1) := by decide +kernel
theorem d_Model_period_28 : decode prog_7_method_30_code 28 = .ok (.iconst 4, 1) := by decide +kernel
theorem d_Model_period_29 : decode prog_7_method_30_code 29 = .ok (.if_icmp .ge 41, 3) := by decide +kernel
theorem d_Model_period_32 : decode prog_7_method_30_code 32 = .ok (.aload_n 0, 1) := by decide +kernel
theorem d_Model_period_33 : decode prog_7_method_30_code 33 = .ok (.getfield 60, 3) := by decide +kernel
theorem d_Model_period_36 : decode prog_7_method_30_code 36 = .ok (.iload_n 1, 1) := by decide +kernel
theorem d_Model_period_37 : decode prog_7_method_30_code 37 = .ok (.aload_n 0, 1) := by decide +kernel
theorem d_Model_period_38 : decode prog_7_method_30_code 38 = .ok (.getfield 63, 3) := by decide +kernel
theorem d_Model_period_41 : decode prog_7_method_30_code 41 = .ok (.iload_n 1, 1) := by decide +kernel
theorem d_Model_period_42 : decode prog_7_method_30_code 42 = .ok (.iaload, 1) := by decide +kernel
theorem d_Model_period_43 : decode prog_7_method_30_code 43 = .ok (.ifCond .ge 7, 3) := by decide +kernel
theorem d_Model_period_46 : decode prog_7_method_30_code 46 = .ok (.iconst 0, 1) := by decide +kernel
theorem d_Model_period_47 : decode prog_7_method_30_code 47 = .ok (.goto 9, 3) := by decide +kernel
theorem d_Model_period_50 : decode prog_7_method_30_code 50 = .ok (.aload_n 0, 1) := by decide +kernel
theorem d_Model_period_51 : decode prog_7_method_30_code 51 = .ok (.getfield 63, 3) := by decide +kernel
theorem d_Model_period_54 : decode prog_7_method_30_code 54 = .ok (.iload_n 1, 1) := by decide +kernel
theorem d_Model_period_55 : decode prog_7_method_30_code 55 = .ok (.iaload, 1) := by decide +kernel
theorem d_Model_period_56 : decode prog_7_method_30_code 56 = .ok (.iastore, 1) := by decide +kernel
theorem d_Model_period_57 : decode prog_7_method_30_code 57 = .ok (.aload_n 0, 1) := by decide +kernel
theorem d_Model_period_58 : decode prog_7_method_30_code 58 = .ok (.getfield 57, 3) := by decide +kernel
theorem d_Model_period_61 : decode prog_7_method_30_code 61 = .ok (.iload_n 1, 1) := by decide +kernel
theorem d_Model_period_62 : decode prog_7_method_30_code 62 = .ok (.iconst 0, 1) := by decide +kernel
theorem d_Model_period_63 : decode prog_7_method_30_code 63 = .ok (.iastore, 1) := by decide +kernel
theorem d_Model_period_64 : decode prog_7_method_30_code 64 = .ok (.iinc 1 1, 3) := by decide +kernel
theorem d_Model_period_67 : decode prog_7_method_30_code 67 = .ok (.goto (-40), 3) := by decide +kernel
theorem d_Model_period_70 : decode prog_7_method_30_code 70 = .ok (.aload_n 0, 1) := by decide +kernel
theorem d_Model_period_71 : decode prog_7_method_30_code 71 = .ok (.invokevirtual 160, 3) := by decide +kernel
theorem d_Model_period_74 : decode prog_7_method_30_code 74 = .ok (.istore_n 1, 1) := by decide +kernel
theorem d_Model_period_75 : decode prog_7_method_30_code 75 = .ok (.iconst 0, 1) := by decide +kernel
theorem d_Model_period_76 : decode prog_7_method_30_code 76 = .ok (.istore_n 2, 1) := by decide +kernel
theorem d_Model_period_77 : decode prog_7_method_30_code 77 = .ok (.iload_n 2, 1) := by decide +kernel
theorem d_Model_period_78 : decode prog_7_method_30_code 78 = .ok (.iconst 4, 1) := by decide +kernel
theorem d_Model_period_79 : decode prog_7_method_30_code 79 = .ok (.if_icmp .ge 116, 3) := by decide +kernel
theorem d_Model_period_82 : decode prog_7_method_30_code 82 = .ok (.iconst 0, 1) := by decide +kernel
theorem d_Model_period_83 : decode prog_7_method_30_code 83 = .ok (.istore_n 3, 1) := by decide +kernel
theorem d_Model_period_84 : decode prog_7_method_30_code 84 = .ok (.iload_n 3, 1) := by decide +kernel
theorem d_Model_period_85 : decode prog_7_method_30_code 85 = .ok (.iconst 4, 1) := by decide +kernel
theorem d_Model_period_86 : decode prog_7_method_30_code 86 = .ok (.if_icmp .ge 103, 3) := by decide +kernel
theorem d_Model_period_89 : decode prog_7_method_30_code 89 = .ok (.iconst 0, 1) := by decide +kernel
theorem d_Model_period_90 : decode prog_7_method_30_code 90 = .ok (.istore 4, 2) := by decide +kernel
theorem d_Model_period_92 : decode prog_7_method_30_code 92 = .ok (.iconst 0, 1) := by decide +kernel
theorem d_Model_period_93 : decode prog_7_method_30_code 93 = .ok (.istore 5, 2) := by decide +kernel
theorem d_Model_period_95 : decode prog_7_method_30_code 95 = .ok (.iload 5, 2) := by decide +kernel
theorem d_Model_period_97 : decode prog_7_method_30_code 97 = .ok (.iconst 4, 1) := by decide +kernel
theorem d_Model_period_98 : decode prog_7_method_30_code 98 = .ok (.if_icmp .ge 46, 3) := by decide +kernel
theorem d_Model_period_101 : decode prog_7_method_30_code 101 = .ok (.aload_n 0, 1) := by decide +kernel
theorem d_Model_period_102 : decode prog_7_method_30_code 102 = .ok (.getfield 63, 3) := by decide +kernel
theorem d_Model_period_105 : decode prog_7_method_30_code 105 = .ok (.iload 5, 2) := by decide +kernel
theorem d_Model_period_107 : decode prog_7_method_30_code 107 = .ok (.iaload, 1) := by decide +kernel
theorem d_Model_period_108 : decode prog_7_method_30_code 108 = .ok (.ifCond .lt 26, 3) := by decide +kernel
theorem d_Model_period_111 : decode prog_7_method_30_code 111 = .ok (.iload 5, 2) := by decide +kernel
theorem d_Model_period_113 : decode prog_7_method_30_code 113 = .ok (.iload_n 3, 1) := by decide +kernel
theorem d_Model_period_114 : decode prog_7_method_30_code 114 = .ok (.if_icmp .eq 20, 3) := by decide +kernel
theorem d_Model_period_117 : decode prog_7_method_30_code 117 = .ok (.aload_n 0, 1) := by decide +kernel
theorem d_Model_period_118 : decode prog_7_method_30_code 118 = .ok (.iload 5, 2) := by decide +kernel
theorem d_Model_period_120 : decode prog_7_method_30_code 120 = .ok (.iload_n 3, 1) := by decide +kernel
theorem d_Model_period_121 : decode prog_7_method_30_code 121 = .ok (.invokevirtual 166, 3) := by decide +kernel
theorem d_Model_period_124 : decode prog_7_method_30_code 124 = .ok (.ifCond .eq 10, 3) := by decide +kernel
theorem d_Model_period_127 : decode prog_7_method_30_code 127 = .ok (.iload 4, 2) := by decide +kernel
theorem d_Model_period_129 : decode prog_7_method_30_code 129 = .ok (.iconst 1, 1) := by decide +kernel
theorem d_Model_period_130 : decode prog_7_method_30_code 130 = .ok (.iadd, 1) := by decide +kernel
theorem d_Model_period_131 : decode prog_7_method_30_code 131 = .ok (.goto 5, 3) := by decide +kernel
theorem d_Model_period_134 : decode prog_7_method_30_code 134 = .ok (.iload 4, 2) := by decide +kernel
theorem d_Model_period_136 : decode prog_7_method_30_code 136 = .ok (.istore 4, 2) := by decide +kernel
theorem d_Model_period_138 : decode prog_7_method_30_code 138 = .ok (.iinc 5 1, 3) := by decide +kernel
theorem d_Model_period_141 : decode prog_7_method_30_code 141 = .ok (.goto (-46), 3) := by decide +kernel
theorem d_Model_period_144 : decode prog_7_method_30_code 144 = .ok (.aload_n 0, 1) := by decide +kernel
