theorem d_Model_init_0 : decode prog_7_method_1_code 0 = .ok (.aload_n 0, 1) := by decide +kernel
theorem d_Model_init_1 : decode prog_7_method_1_code 1 = .ok (.invokespecial 1, 3) := by decide +kernel
theorem d_Model_init_4 : decode prog_7_method_1_code 4 = .ok (.aload_n 0, 1) := by decide +kernel
theorem d_Model_init_5 : decode prog_7_method_1_code 5 = .ok (.bipush 6, 2) := by decide +kernel
theorem d_Model_init_7 : decode prog_7_method_1_code 7 = .ok (.newarray .int, 2) := by decide +kernel
theorem d_Model_init_9 : decode prog_7_method_1_code 9 = .ok (.putfield 7, 3) := by decide +kernel
theorem d_Model_init_12 : decode prog_7_method_1_code 12 = .ok (.aload_n 0, 1) := by decide +kernel
theorem d_Model_init_13 : decode prog_7_method_1_code 13 = .ok (.bipush 6, 2) := by decide +kernel
theorem d_Model_init_15 : decode prog_7_method_1_code 15 = .ok (.newarray .int, 2) := by decide +kernel
theorem d_Model_init_17 : decode prog_7_method_1_code 17 = .ok (.putfield 13, 3) := by decide +kernel
theorem d_Model_init_20 : decode prog_7_method_1_code 20 = .ok (.aload_n 0, 1) := by decide +kernel
theorem d_Model_init_21 : decode prog_7_method_1_code 21 = .ok (.bipush 6, 2) := by decide +kernel
theorem d_Model_init_23 : decode prog_7_method_1_code 23 = .ok (.newarray .int, 2) := by decide +kernel
theorem d_Model_init_25 : decode prog_7_method_1_code 25 = .ok (.putfield 16, 3) := by decide +kernel
theorem d_Model_init_28 : decode prog_7_method_1_code 28 = .ok (.aload_n 0, 1) := by decide +kernel
theorem d_Model_init_29 : decode prog_7_method_1_code 29 = .ok (.bipush 49, 2) := by decide +kernel
theorem d_Model_init_31 : decode prog_7_method_1_code 31 = .ok (.newarray .int, 2) := by decide +kernel
theorem d_Model_init_33 : decode prog_7_method_1_code 33 = .ok (.putfield 19, 3) := by decide +kernel
theorem d_Model_init_36 : decode prog_7_method_1_code 36 = .ok (.aload_n 0, 1) := by decide +kernel
theorem d_Model_init_37 : decode prog_7_method_1_code 37 = .ok (.bipush 49, 2) := by decide +kernel
theorem d_Model_init_39 : decode prog_7_method_1_code 39 = .ok (.newarray .int, 2) := by decide +kernel
theorem d_Model_init_41 : decode prog_7_method_1_code 41 = .ok (.putfield 22, 3) := by decide +kernel
theorem d_Model_init_44 : decode prog_7_method_1_code 44 = .ok (.aload_n 0, 1) := by decide +kernel
theorem d_Model_init_45 : decode prog_7_method_1_code 45 = .ok (.bipush 49, 2) := by decide +kernel
theorem d_Model_init_47 : decode prog_7_method_1_code 47 = .ok (.newarray .int, 2) := by decide +kernel
theorem d_Model_init_49 : decode prog_7_method_1_code 49 = .ok (.putfield 25, 3) := by decide +kernel
theorem d_Model_init_52 : decode prog_7_method_1_code 52 = .ok (.aload_n 0, 1) := by decide +kernel
theorem d_Model_init_53 : decode prog_7_method_1_code 53 = .ok (.bipush 6, 2) := by decide +kernel
theorem d_Model_init_55 : decode prog_7_method_1_code 55 = .ok (.newarray .int, 2) := by decide +kernel
theorem d_Model_init_57 : decode prog_7_method_1_code 57 = .ok (.putfield 28, 3) := by decide +kernel
theorem d_Model_init_60 : decode prog_7_method_1_code 60 = .ok (.aload_n 0, 1) := by decide +kernel
theorem d_Model_init_61 : decode prog_7_method_1_code 61 = .ok (.iconst 4, 1) := by decide +kernel
theorem d_Model_init_62 : decode prog_7_method_1_code 62 = .ok (.newarray .int, 2) := by decide +kernel
theorem d_Model_init_64 : decode prog_7_method_1_code 64 = .ok (.putfield 31, 3) := by decide +kernel
theorem d_Model_init_67 : decode prog_7_method_1_code 67 = .ok (.aload_n 0, 1) := by decide +kernel
theorem d_Model_init_68 : decode prog_7_method_1_code 68 = .ok (.bipush 6, 2) := by decide +kernel
theorem d_Model_init_70 : decode prog_7_method_1_code 70 = .ok (.newarray .long, 2) := by decide +kernel
theorem d_Model_init_72 : decode prog_7_method_1_code 72 = .ok (.putfield 34, 3) := by decide +kernel
theorem d_Model_init_75 : decode prog_7_method_1_code 75 = .ok (.aload_n 0, 1) := by decide +kernel
theorem d_Model_init_76 : decode prog_7_method_1_code 76 = .ok (.bipush 6, 2) := by decide +kernel
theorem d_Model_init_78 : decode prog_7_method_1_code 78 = .ok (.newarray .long, 2) := by decide +kernel
theorem d_Model_init_80 : decode prog_7_method_1_code 80 = .ok (.putfield 38, 3) := by decide +kernel
theorem d_Model_init_83 : decode prog_7_method_1_code 83 = .ok (.aload_n 0, 1) := by decide +kernel
theorem d_Model_init_84 : decode prog_7_method_1_code 84 = .ok (.bipush 6, 2) := by decide +kernel
theorem d_Model_init_86 : decode prog_7_method_1_code 86 = .ok (.newarray .long, 2) := by decide +kernel
theorem d_Model_init_88 : decode prog_7_method_1_code 88 = .ok (.putfield 41, 3) := by decide +kernel
theorem d_Model_init_91 : decode prog_7_method_1_code 91 = .ok (.aload_n 0, 1) := by decide +kernel
theorem d_Model_init_92 : decode prog_7_method_1_code 92 = .ok (.bipush 6, 2) := by decide +kernel
theorem d_Model_init_94 : decode prog_7_method_1_code 94 = .ok (.newarray .long, 2) := by decide +kernel
theorem d_Model_init_96 : decode prog_7_method_1_code 96 = .ok (.putfield 44, 3) := by decide +kernel
theorem d_Model_init_99 : decode prog_7_method_1_code 99 = .ok (.aload_n 0, 1) := by decide +kernel
theorem d_Model_init_100 : decode prog_7_method_1_code 100 = .ok (.bipush 6, 2) := by decide +kernel
theorem d_Model_init_102 : decode prog_7_method_1_code 102 = .ok (.newarray .long, 2) := by decide +kernel
theorem d_Model_init_104 : decode prog_7_method_1_code 104 = .ok (.putfield 47, 3) := by decide +kernel
theorem d_Model_init_107 : decode prog_7_method_1_code 107 = .ok (.aload_n 0, 1) := by decide +kernel
theorem d_Model_init_108 : decode prog_7_method_1_code 108 = .ok (.bipush 6, 2) := by decide +kernel
theorem d_Model_init_110 : decode prog_7_method_1_code 110 = .ok (.newarray .int, 2) := by decide +kernel
theorem d_Model_init_112 : decode prog_7_method_1_code 112 = .ok (.putfield 50, 3) := by decide +kernel
theorem d_Model_init_115 : decode prog_7_method_1_code 115 = .ok (.aload_n 0, 1) := by decide +kernel
theorem d_Model_init_116 : decode prog_7_method_1_code 116 = .ok (.bipush 6, 2) := by decide +kernel
theorem d_Model_init_118 : decode prog_7_method_1_code 118 = .ok (.newarray .boolean, 2) := by decide +kernel
theorem d_Model_init_120 : decode prog_7_method_1_code 120 = .ok (.putfield 53, 3) := by decide +kernel
theorem d_Model_init_123 : decode prog_7_method_1_code 123 = .ok (.aload_n 0, 1) := by decide +kernel
theorem d_Model_init_124 : decode prog_7_method_1_code 124 = .ok (.iconst 4, 1) := by decide +kernel
theorem d_Model_init_125 : decode prog_7_method_1_code 125 = .ok (.newarray .int, 2) := by decide +kernel
theorem d_Model_init_127 : decode prog_7_method_1_code 127 = .ok (.putfield 57, 3) := by decide +kernel
theorem d_Model_init_130 : decode prog_7_method_1_code 130 = .ok (.aload_n 0, 1) := by decide +kernel
theorem d_Model_init_131 : decode prog_7_method_1_code 131 = .ok (.iconst 4, 1) := by decide +kernel
theorem d_Model_init_132 : decode prog_7_method_1_code 132 = .ok (.newarray .int, 2) := by decide +kernel
theorem d_Model_init_134 : decode prog_7_method_1_code 134 = .ok (.putfield 60, 3) := by decide +kernel
theorem d_Model_init_137 : decode prog_7_method_1_code 137 = .ok (.aload_n 0, 1) := by decide +kernel
theorem d_Model_init_138 : decode prog_7_method_1_code 138 = .ok (.iconst 4, 1) := by decide +kernel
theorem d_Model_init_139 : decode prog_7_method_1_code 139 = .ok (.newarray .int, 2) := by decide +kernel
theorem d_Model_init_141 : decode prog_7_method_1_code 141 = .ok (.putfield 63, 3) := by decide +kernel
theorem d_Model_init_144 : decode prog_7_method_1_code 144 = .ok (.aload_n 0, 1) := by decide +kernel
theorem d_Model_init_145 : decode prog_7_method_1_code 145 = .ok (.iconst 4, 1) := by decide +kernel
theorem d_Model_init_146 : decode prog_7_method_1_code 146 = .ok (.newarray .int, 2) := by decide +kernel
theorem d_Model_init_148 : decode prog_7_method_1_code 148 = .ok (.putfield 66, 3) := by decide +kernel
theorem d_Model_init_151 : decode prog_7_method_1_code 151 = .ok (.aload_n 0, 1) := by decide +kernel
theorem d_Model_init_152 : decode prog_7_method_1_code 152 = .ok (.iconst 4, 1) := by decide +kernel
theorem d_Model_init_153 : decode prog_7_method_1_code 153 = .ok (.newarray .int, 2) := by decide +kernel
theorem d_Model_init_155 : decode prog_7_method_1_code 155 = .ok (.putfield 69, 3) := by decide +kernel
theorem d_Model_init_158 : decode prog_7_method_1_code 158 = .ok (.aload_n 0, 1) := by decide +kernel
theorem d_Model_init_159 : decode prog_7_method_1_code 159 = .ok (.iconst 4, 1) := by decide +kernel
theorem d_Model_init_160 : decode prog_7_method_1_code 160 = .ok (.newarray .int, 2) := by decide +kernel
theorem d_Model_init_162 : decode prog_7_method_1_code 162 = .ok (.putfield 72, 3) := by decide +kernel
theorem d_Model_init_165 : decode prog_7_method_1_code 165 = .ok (.aload_n 0, 1) := by decide +kernel
theorem d_Model_init_166 : decode prog_7_method_1_code 166 = .ok (.invokevirtual 75, 3) := by decide +kernel
theorem d_Model_init_169 : decode prog_7_method_1_code 169 = .ok (.return_, 1) := by decide +kernel
theorem d_Model_thrown_0 : decode prog_7_method_2_code 0 = .ok (.aload_n 0, 1) := by decide +kernel
theorem d_Model_thrown_1 : decode prog_7_method_2_code 1 = .ok (.getfield 78, 3) := by decide +kernel
theorem d_Model_thrown_4 : decode prog_7_method_2_code 4 = .ok (.ireturn, 1) := by decide +kernel
theorem d_Model_begin_0 : decode prog_7_method_3_code 0 = .ok (.aload_n 0, 1) := by decide +kernel
theorem d_Model_begin_1 : decode prog_7_method_3_code 1 = .ok (.iconst 0, 1) := by decide +kernel
theorem d_Model_begin_2 : decode prog_7_method_3_code 2 = .ok (.putfield 82, 3) := by decide +kernel
theorem d_Model_begin_5 : decode prog_7_method_3_code 5 = .ok (.iconst 0, 1) := by decide +kernel
theorem d_Model_begin_6 : decode prog_7_method_3_code 6 = .ok (.istore_n 1, 1) := by decide +kernel
theorem d_Model_begin_7 : decode prog_7_method_3_code 7 = .ok (.iload_n 1, 1) := by decide +kernel
theorem d_Model_begin_8 : decode prog_7_method_3_code 8 = .ok (.bipush 6, 2) := by decide +kernel
theorem d_Model_begin_10 : decode prog_7_method_3_code 10 = .ok (.if_icmp .ge 59, 3) := by decide +kernel
theorem d_Model_begin_13 : decode prog_7_method_3_code 13 = .ok (.aload_n 0, 1) := by decide +kernel
theorem d_Model_begin_14 : decode prog_7_method_3_code 14 = .ok (.getfield 7, 3) := by decide +kernel
theorem d_Model_begin_17 : decode prog_7_method_3_code 17 = .ok (.iload_n 1, 1) := by decide +kernel
theorem d_Model_begin_18 : decode prog_7_method_3_code 18 = .ok (.sipush 1000, 3) := by decide +kernel
theorem d_Model_begin_21 : decode prog_7_method_3_code 21 = .ok (.iastore, 1) := by decide +kernel
theorem d_Model_begin_22 : decode prog_7_method_3_code 22 = .ok (.aload_n 0, 1) := by decide +kernel
theorem d_Model_begin_23 : decode prog_7_method_3_code 23 = .ok (.getfield 13, 3) := by decide +kernel
theorem d_Model_begin_26 : decode prog_7_method_3_code 26 = .ok (.iload_n 1, 1) := by decide +kernel
theorem d_Model_begin_27 : decode prog_7_method_3_code 27 = .ok (.sipush 1000, 3) := by decide +kernel
theorem d_Model_begin_30 : decode prog_7_method_3_code 30 = .ok (.iastore, 1) := by decide +kernel
theorem d_Model_begin_31 : decode prog_7_method_3_code 31 = .ok (.aload_n 0, 1) := by decide +kernel
theorem d_Model_begin_32 : decode prog_7_method_3_code 32 = .ok (.getfield 16, 3) := by decide +kernel
theorem d_Model_begin_35 : decode prog_7_method_3_code 35 = .ok (.iload_n 1, 1) := by decide +kernel
theorem d_Model_begin_36 : decode prog_7_method_3_code 36 = .ok (.sipush 1000, 3) := by decide +kernel
theorem d_Model_begin_39 : decode prog_7_method_3_code 39 = .ok (.iastore, 1) := by decide +kernel
theorem d_Model_begin_40 : decode prog_7_method_3_code 40 = .ok (.aload_n 0, 1) := by decide +kernel
theorem d_Model_begin_41 : decode prog_7_method_3_code 41 = .ok (.getfield 28, 3) := by decide +kernel
theorem d_Model_begin_44 : decode prog_7_method_3_code 44 = .ok (.iload_n 1, 1) := by decide +kernel
theorem d_Model_begin_45 : decode prog_7_method_3_code 45 = .ok (.sipush 20000, 3) := by decide +kernel
theorem d_Model_begin_48 : decode prog_7_method_3_code 48 = .ok (.iastore, 1) := by decide +kernel
theorem d_Model_begin_49 : decode prog_7_method_3_code 49 = .ok (.aload_n 0, 1) := by decide +kernel
theorem d_Model_begin_50 : decode prog_7_method_3_code 50 = .ok (.getfield 50, 3) := by decide +kernel
theorem d_Model_begin_53 : decode prog_7_method_3_code 53 = .ok (.iload_n 1, 1) := by decide +kernel
theorem d_Model_begin_54 : decode prog_7_method_3_code 54 = .ok (.iconst 0, 1) := by decide +kernel
theorem d_Model_begin_55 : decode prog_7_method_3_code 55 = .ok (.iastore, 1) := by decide +kernel
theorem d_Model_begin_56 : decode prog_7_method_3_code 56 = .ok (.aload_n 0, 1) := by decide +kernel
theorem d_Model_begin_57 : decode prog_7_method_3_code 57 = .ok (.getfield 53, 3) := by decide +kernel
theorem d_Model_begin_60 : decode prog_7_method_3_code 60 = .ok (.iload_n 1, 1) := by decide +kernel
theorem d_Model_begin_61 : decode prog_7_method_3_code 61 = .ok (.iconst 0, 1) := by decide +kernel
theorem d_Model_begin_62 : decode prog_7_method_3_code 62 = .ok (.bastore, 1) := by decide +kernel
theorem d_Model_begin_63 : decode prog_7_method_3_code 63 = .ok (.iinc 1 1, 3) := by decide +kernel
theorem d_Model_begin_66 : decode prog_7_method_3_code 66 = .ok (.goto (-59), 3) := by decide +kernel
theorem d_Model_begin_69 : decode prog_7_method_3_code 69 = .ok (.iconst 0, 1) := by decide +kernel
theorem d_Model_begin_70 : decode prog_7_method_3_code 70 = .ok (.istore_n 1, 1) := by decide +kernel
theorem d_Model_begin_71 : decode prog_7_method_3_code 71 = .ok (.iload_n 1, 1) := by decide +kernel
theorem d_Model_begin_72 : decode prog_7_method_3_code 72 = .ok (.bipush 49, 2) := by decide +kernel
theorem d_Model_begin_74 : decode prog_7_method_3_code 74 = .ok (.if_icmp .ge 30, 3) := by decide +kernel
theorem d_Model_begin_77 : decode prog_7_method_3_code 77 = .ok (.aload_n 0, 1) := by decide +kernel
theorem d_Model_begin_78 : decode prog_7_method_3_code 78 = .ok (.getfield 19, 3) := by decide +kernel
theorem d_Model_begin_81 : decode prog_7_method_3_code 81 = .ok (.iload_n 1, 1) := by decide +kernel
theorem d_Model_begin_82 : decode prog_7_method_3_code 82 = .ok (.iconst 0, 1) := by decide +kernel
theorem d_Model_begin_83 : decode prog_7_method_3_code 83 = .ok (.iastore, 1) := by decide +kernel
theorem d_Model_begin_84 : decode prog_7_method_3_code 84 = .ok (.aload_n 0, 1) := by decide +kernel
theorem d_Model_begin_85 : decode prog_7_method_3_code 85 = .ok (.getfield 22, 3) := by decide +kernel
theorem d_Model_begin_88 : decode prog_7_method_3_code 88 = .ok (.iload_n 1, 1) := by decide +kernel
theorem d_Model_begin_89 : decode prog_7_method_3_code 89 = .ok (.iconst 0, 1) := by decide +kernel
theorem d_Model_begin_90 : decode prog_7_method_3_code 90 = .ok (.iastore, 1) := by decide +kernel
theorem d_Model_begin_91 : decode prog_7_method_3_code 91 = .ok (.aload_n 0, 1) := by decide +kernel
theorem d_Model_begin_92 : decode prog_7_method_3_code 92 = .ok (.getfield 25, 3) := by decide +kernel
theorem d_Model_begin_95 : decode prog_7_method_3_code 95 = .ok (.iload_n 1, 1) := by decide +kernel
theorem d_Model_begin_96 : decode prog_7_method_3_code 96 = .ok (.iconst 0, 1) := by decide +kernel
theorem d_Model_begin_97 : decode prog_7_method_3_code 97 = .ok (.iastore, 1) := by decide +kernel
theorem d_Model_begin_98 : decode prog_7_method_3_code 98 = .ok (.iinc 1 1, 3) := by decide +kernel
theorem d_Model_begin_101 : decode prog_7_method_3_code 101 = .ok (.goto (-30), 3) := by decide +kernel
theorem d_Model_begin_104 : decode prog_7_method_3_code 104 = .ok (.aload_n 0, 1) := by decide +kernel
theorem d_Model_begin_105 : decode prog_7_method_3_code 105 = .ok (.sipush 5000, 3) := by decide +kernel
theorem d_Model_begin_108 : decode prog_7_method_3_code 108 = .ok (.putfield 86, 3) := by decide +kernel
theorem d_Model_begin_111 : decode prog_7_method_3_code 111 = .ok (.aload_n 0, 1) := by decide +kernel
theorem d_Model_begin_112 : decode prog_7_method_3_code 112 = .ok (.sipush 5000, 3) := by decide +kernel
theorem d_Model_begin_115 : decode prog_7_method_3_code 115 = .ok (.putfield 89, 3) := by decide +kernel
theorem d_Model_begin_118 : decode prog_7_method_3_code 118 = .ok (.aload_n 0, 1) := by decide +kernel
theorem d_Model_begin_119 : decode prog_7_method_3_code 119 = .ok (.sipush 5000, 3) := by decide +kernel
theorem d_Model_begin_122 : decode prog_7_method_3_code 122 = .ok (.putfield 92, 3) := by decide +kernel
theorem d_Model_begin_125 : decode prog_7_method_3_code 125 = .ok (.iconst 0, 1) := by decide +kernel
theorem d_Model_begin_126 : decode prog_7_method_3_code 126 = .ok (.istore_n 1, 1) := by decide +kernel
theorem d_Model_begin_127 : decode prog_7_method_3_code 127 = .ok (.iload_n 1, 1) := by decide +kernel
theorem d_Model_begin_128 : decode prog_7_method_3_code 128 = .ok (.iconst 4, 1) := by decide +kernel
theorem d_Model_begin_129 : decode prog_7_method_3_code 129 = .ok (.if_icmp .ge 51, 3) := by decide +kernel
theorem d_Model_begin_132 : decode prog_7_method_3_code 132 = .ok (.aload_n 0, 1) := by decide +kernel
theorem d_Model_begin_133 : decode prog_7_method_3_code 133 = .ok (.getfield 31, 3) := by decide +kernel
theorem d_Model_begin_136 : decode prog_7_method_3_code 136 = .ok (.iload_n 1, 1) := by decide +kernel
theorem d_Model_begin_137 : decode prog_7_method_3_code 137 = .ok (.iconst 0, 1) := by decide +kernel
theorem d_Model_begin_138 : decode prog_7_method_3_code 138 = .ok (.iastore, 1) := by decide +kernel
theorem d_Model_begin_139 : decode prog_7_method_3_code 139 = .ok (.aload_n 0, 1) := by decide +kernel
theorem d_Model_begin_140 : decode prog_7_method_3_code 140 = .ok (.getfield 57, 3) := by decide +kernel
theorem d_Model_begin_143 : decode prog_7_method_3_code 143 = .ok (.iload_n 1, 1) := by decide +kernel
theorem d_Model_begin_144 : decode prog_7_method_3_code 144 = .ok (.iconst 0, 1) := by decide +kernel
theorem d_Model_begin_145 : decode prog_7_method_3_code 145 = .ok (.iastore, 1) := by decide +kernel
theorem d_Model_begin_146 : decode prog_7_method_3_code 146 = .ok (.aload_n 0, 1) := by decide +kernel
theorem d_Model_begin_147 : decode prog_7_method_3_code 147 = .ok (.getfield 63, 3) := by decide +kernel
theorem d_Model_begin_150 : decode prog_7_method_3_code 150 = .ok (.iload_n 1, 1) := by decide +kernel
theorem d_Model_begin_151 : decode prog_7_method_3_code 151 = .ok (.iconst (-1), 1) := by decide +kernel
theorem d_Model_begin_152 : decode prog_7_method_3_code 152 = .ok (.iastore, 1) := by decide +kernel
theorem d_Model_begin_153 : decode prog_7_method_3_code 153 = .ok (.aload_n 0, 1) := by decide +kernel
theorem d_Model_begin_154 : decode prog_7_method_3_code 154 = .ok (.getfield 66, 3) := by decide +kernel
theorem d_Model_begin_157 : decode prog_7_method_3_code 157 = .ok (.iload_n 1, 1) := by decide +kernel
theorem d_Model_begin_158 : decode prog_7_method_3_code 158 = .ok (.iconst 0, 1) := by decide +kernel
theorem d_Model_begin_159 : decode prog_7_method_3_code 159 = .ok (.iastore, 1) := by decide +kernel
theorem d_Model_begin_160 : decode prog_7_method_3_code 160 = .ok (.aload_n 0, 1) := by decide +kernel
theorem d_Model_begin_161 : decode prog_7_method_3_code 161 = .ok (.getfield 69, 3) := by decide +kernel
theorem d_Model_begin_164 : decode prog_7_method_3_code 164 = .ok (.iload_n 1, 1) := by decide +kernel
theorem d_Model_begin_165 : decode prog_7_method_3_code 165 = .ok (.iconst 0, 1) := by decide +kernel
theorem d_Model_begin_166 : decode prog_7_method_3_code 166 = .ok (.iastore, 1) := by decide +kernel
theorem d_Model_begin_167 : decode prog_7_method_3_code 167 = .ok (.aload_n 0, 1) := by decide +kernel
theorem d_Model_begin_168 : decode prog_7_method_3_code 168 = .ok (.getfield 72, 3) := by decide +kernel
theorem d_Model_begin_171 : decode prog_7_method_3_code 171 = .ok (.iload_n 1, 1) := by decide +kernel
theorem d_Model_begin_172 : decode prog_7_method_3_code 172 = .ok (.iconst 0, 1) := by decide +kernel
theorem d_Model_begin_173 : decode prog_7_method_3_code 173 = .ok (.iastore, 1) := by decide +kernel
theorem d_Model_begin_174 : decode prog_7_method_3_code 174 = .ok (.iinc 1 1, 3) := by decide +kernel
theorem d_Model_begin_177 : decode prog_7_method_3_code 177 = .ok (.goto (-50), 3) := by decide +kernel
theorem d_Model_begin_180 : decode prog_7_method_3_code 180 = .ok (.aload_n 0, 1) := by decide +kernel
theorem d_Model_begin_181 : decode prog_7_method_3_code 181 = .ok (.iconst 0, 1) := by decide +kernel
theorem d_Model_begin_182 : decode prog_7_method_3_code 182 = .ok (.putfield 95, 3) := by decide +kernel
theorem d_Model_begin_185 : decode prog_7_method_3_code 185 = .ok (.aload_n 0, 1) := by decide +kernel
theorem d_Model_begin_186 : decode prog_7_method_3_code 186 = .ok (.iconst 0, 1) := by decide +kernel
theorem d_Model_begin_187 : decode prog_7_method_3_code 187 = .ok (.putfield 98, 3) := by decide +kernel
theorem d_Model_begin_190 : decode prog_7_method_3_code 190 = .ok (.aload_n 0, 1) := by decide +kernel
theorem d_Model_begin_191 : decode prog_7_method_3_code 191 = .ok (.iconst 0, 1) := by decide +kernel
theorem d_Model_begin_192 : decode prog_7_method_3_code 192 = .ok (.putfield 101, 3) := by decide +kernel
theorem d_Model_begin_195 : decode prog_7_method_3_code 195 = .ok (.aload_n 0, 1) := by decide +kernel
theorem d_Model_begin_196 : decode prog_7_method_3_code 196 = .ok (.iconst 0, 1) := by decide +kernel
theorem d_Model_begin_197 : decode prog_7_method_3_code 197 = .ok (.putfield 104, 3) := by decide +kernel
theorem d_Model_begin_200 : decode prog_7_method_3_code 200 = .ok (.aload_n 0, 1) := by decide +kernel
theorem d_Model_begin_201 : decode prog_7_method_3_code 201 = .ok (.iconst 0, 1) := by decide +kernel
theorem d_Model_begin_202 : decode prog_7_method_3_code 202 = .ok (.putfield 107, 3) := by decide +kernel
theorem d_Model_begin_205 : decode prog_7_method_3_code 205 = .ok (.return_, 1) := by decide +kernel
theorem d_Model_isNode_0 : decode prog_7_method_4_code 0 = .ok (.iload_n 0, 1) := by decide +kernel
theorem d_Model_isNode_1 : decode prog_7_method_4_code 1 = .ok (.ifCond .lt 13, 3) := by decide +kernel
theorem d_Model_isNode_4 : decode prog_7_method_4_code 4 = .ok (.iload_n 0, 1) := by decide +kernel
theorem d_Model_isNode_5 : decode prog_7_method_4_code 5 = .ok (.bipush 6, 2) := by decide +kernel
theorem d_Model_isNode_7 : decode prog_7_method_4_code 7 = .ok (.if_icmp .ge 7, 3) := by decide +kernel
theorem d_Model_isNode_10 : decode prog_7_method_4_code 10 = .ok (.iconst 1, 1) := by decide +kernel
theorem d_Model_isNode_11 : decode prog_7_method_4_code 11 = .ok (.goto 4, 3) := by decide +kernel
theorem d_Model_isNode_14 : decode prog_7_method_4_code 14 = .ok (.iconst 0, 1) := by decide +kernel
theorem d_Model_isNode_15 : decode prog_7_method_4_code 15 = .ok (.ireturn, 1) := by decide +kernel
theorem d_Model_isCore_0 : decode prog_7_method_5_code 0 = .ok (.iload_n 0, 1) := by decide +kernel
theorem d_Model_isCore_1 : decode prog_7_method_5_code 1 = .ok (.ifCond .lt 12, 3) := by decide +kernel
theorem d_Model_isCore_4 : decode prog_7_method_5_code 4 = .ok (.iload_n 0, 1) := by decide +kernel
theorem d_Model_isCore_5 : decode prog_7_method_5_code 5 = .ok (.iconst 4, 1) := by decide +kernel
theorem d_Model_isCore_6 : decode prog_7_method_5_code 6 = .ok (.if_icmp .ge 7, 3) := by decide +kernel
theorem d_Model_isCore_9 : decode prog_7_method_5_code 9 = .ok (.iconst 1, 1) := by decide +kernel
theorem d_Model_isCore_10 : decode prog_7_method_5_code 10 = .ok (.goto 4, 3) := by decide +kernel
theorem d_Model_isCore_13 : decode prog_7_method_5_code 13 = .ok (.iconst 0, 1) := by decide +kernel
theorem d_Model_isCore_14 : decode prog_7_method_5_code 14 = .ok (.ireturn, 1) := by decide +kernel
theorem d_Model_isEnd_0 : decode prog_7_method_6_code 0 = .ok (.iload_n 0, 1) := by decide +kernel
theorem d_Model_isEnd_1 : decode prog_7_method_6_code 1 = .ok (.ifCond .lt 13, 3) := by decide +kernel
theorem d_Model_isEnd_4 : decode prog_7_method_6_code 4 = .ok (.iload_n 0, 1) := by decide +kernel
theorem d_Model_isEnd_5 : decode prog_7_method_6_code 5 = .ok (.bipush 6, 2) := by decide +kernel
theorem d_Model_isEnd_7 : decode prog_7_method_6_code 7 = .ok (.if_icmp .gt 7, 3) := by decide +kernel
theorem d_Model_isEnd_10 : decode prog_7_method_6_code 10 = .ok (.iconst 1, 1) := by decide +kernel
theorem d_Model_isEnd_11 : decode prog_7_method_6_code 11 = .ok (.goto 4, 3) := by decide +kernel
theorem d_Model_isEnd_14 : decode prog_7_method_6_code 14 = .ok (.iconst 0, 1) := by decide +kernel
theorem d_Model_isEnd_15 : decode prog_7_method_6_code 15 = .ok (.ireturn, 1) := by decide +kernel
theorem d_Model_isWithin_0 : decode prog_7_method_7_code 0 = .ok (.iload_n 0, 1) := by decide +kernel
theorem d_Model_isWithin_1 : decode prog_7_method_7_code 1 = .ok (.iload_n 1, 1) := by decide +kernel
theorem d_Model_isWithin_2 : decode prog_7_method_7_code 2 = .ok (.if_icmp .lt 12, 3) := by decide +kernel
theorem d_Model_isWithin_5 : decode prog_7_method_7_code 5 = .ok (.iload_n 0, 1) := by decide +kernel
theorem d_Model_isWithin_6 : decode prog_7_method_7_code 6 = .ok (.iload_n 2, 1) := by decide +kernel
theorem d_Model_isWithin_7 : decode prog_7_method_7_code 7 = .ok (.if_icmp .gt 7, 3) := by decide +kernel
theorem d_Model_isWithin_10 : decode prog_7_method_7_code 10 = .ok (.iconst 1, 1) := by decide +kernel
theorem d_Model_isWithin_11 : decode prog_7_method_7_code 11 = .ok (.goto 4, 3) := by decide +kernel
theorem d_Model_isWithin_14 : decode prog_7_method_7_code 14 = .ok (.iconst 0, 1) := by decide +kernel
theorem d_Model_isWithin_15 : decode prog_7_method_7_code 15 = .ok (.ireturn, 1) := by decide +kernel
theorem d_Model_unsealed_0 : decode prog_7_method_8_code 0 = .ok (.aload_n 0, 1) := by decide +kernel
theorem d_Model_unsealed_1 : decode prog_7_method_8_code 1 = .ok (.iload_n 1, 1) := by decide +kernel
theorem d_Model_unsealed_2 : decode prog_7_method_8_code 2 = .ok (.ifCond .ne 7, 3) := by decide +kernel
theorem d_Model_unsealed_5 : decode prog_7_method_8_code 5 = .ok (.iconst 1, 1) := by decide +kernel
theorem d_Model_unsealed_6 : decode prog_7_method_8_code 6 = .ok (.goto 23, 3) := by decide +kernel
theorem d_Model_unsealed_9 : decode prog_7_method_8_code 9 = .ok (.iload_n 2, 1) := by decide +kernel
theorem d_Model_unsealed_10 : decode prog_7_method_8_code 10 = .ok (.ifCond .ne 7, 3) := by decide +kernel
theorem d_Model_unsealed_13 : decode prog_7_method_8_code 13 = .ok (.iconst 2, 1) := by decide +kernel
theorem d_Model_unsealed_14 : decode prog_7_method_8_code 14 = .ok (.goto 15, 3) := by decide +kernel
theorem d_Model_unsealed_17 : decode prog_7_method_8_code 17 = .ok (.aload_n 0, 1) := by decide +kernel
theorem d_Model_unsealed_18 : decode prog_7_method_8_code 18 = .ok (.getfield 82, 3) := by decide +kernel
theorem d_Model_unsealed_21 : decode prog_7_method_8_code 21 = .ok (.ifCond .eq 7, 3) := by decide +kernel
theorem d_Model_unsealed_24 : decode prog_7_method_8_code 24 = .ok (.iconst 3, 1) := by decide +kernel
theorem d_Model_unsealed_25 : decode prog_7_method_8_code 25 = .ok (.goto 4, 3) := by decide +kernel
theorem d_Model_unsealed_28 : decode prog_7_method_8_code 28 = .ok (.iconst 0, 1) := by decide +kernel
theorem d_Model_unsealed_29 : decode prog_7_method_8_code 29 = .ok (.putfield 78, 3) := by decide +kernel
theorem d_Model_unsealed_32 : decode prog_7_method_8_code 32 = .ok (.aload_n 0, 1) := by decide +kernel
theorem d_Model_unsealed_33 : decode prog_7_method_8_code 33 = .ok (.getfield 78, 3) := by decide +kernel
theorem d_Model_unsealed_36 : decode prog_7_method_8_code 36 = .ok (.ireturn, 1) := by decide +kernel
theorem d_Model_capacity_0 : decode prog_7_method_9_code 0 = .ok (.aload_n 0, 1) := by decide +kernel
theorem d_Model_capacity_1 : decode prog_7_method_9_code 1 = .ok (.iload_n 1, 1) := by decide +kernel
theorem d_Model_capacity_2 : decode prog_7_method_9_code 2 = .ok (.invokestatic 110, 3) := by decide +kernel
theorem d_Model_capacity_5 : decode prog_7_method_9_code 5 = .ok (.iload_n 2, 1) := by decide +kernel
theorem d_Model_capacity_6 : decode prog_7_method_9_code 6 = .ok (.iconst 1, 1) := by decide +kernel
theorem d_Model_capacity_7 : decode prog_7_method_9_code 7 = .ok (.sipush 10000, 3) := by decide +kernel
theorem d_Model_capacity_10 : decode prog_7_method_9_code 10 = .ok (.invokestatic 114, 3) := by decide +kernel
theorem d_Model_capacity_13 : decode prog_7_method_9_code 13 = .ok (.ifCond .eq 18, 3) := by decide +kernel
theorem d_Model_capacity_16 : decode prog_7_method_9_code 16 = .ok (.iload_n 3, 1) := by decide +kernel
theorem d_Model_capacity_17 : decode prog_7_method_9_code 17 = .ok (.iload_n 2, 1) := by decide +kernel
theorem d_Model_capacity_18 : decode prog_7_method_9_code 18 = .ok (.sipush 10000, 3) := by decide +kernel
theorem d_Model_capacity_21 : decode prog_7_method_9_code 21 = .ok (.invokestatic 114, 3) := by decide +kernel
theorem d_Model_capacity_24 : decode prog_7_method_9_code 24 = .ok (.ifCond .eq 7, 3) := by decide +kernel
theorem d_Model_capacity_27 : decode prog_7_method_9_code 27 = .ok (.iconst 1, 1) := by decide +kernel
theorem d_Model_capacity_28 : decode prog_7_method_9_code 28 = .ok (.goto 4, 3) := by decide +kernel
theorem d_Model_capacity_31 : decode prog_7_method_9_code 31 = .ok (.iconst 0, 1) := by decide +kernel
theorem d_Model_capacity_32 : decode prog_7_method_9_code 32 = .ok (.invokevirtual 118, 3) := by decide +kernel
theorem d_Model_capacity_35 : decode prog_7_method_9_code 35 = .ok (.ifCond .le 4, 3) := by decide +kernel
theorem d_Model_capacity_38 : decode prog_7_method_9_code 38 = .ok (.return_, 1) := by decide +kernel
theorem d_Model_capacity_39 : decode prog_7_method_9_code 39 = .ok (.aload_n 0, 1) := by decide +kernel
theorem d_Model_capacity_40 : decode prog_7_method_9_code 40 = .ok (.getfield 7, 3) := by decide +kernel
theorem d_Model_capacity_43 : decode prog_7_method_9_code 43 = .ok (.iload_n 1, 1) := by decide +kernel
theorem d_Model_capacity_44 : decode prog_7_method_9_code 44 = .ok (.iload_n 2, 1) := by decide +kernel
theorem d_Model_capacity_45 : decode prog_7_method_9_code 45 = .ok (.iastore, 1) := by decide +kernel
theorem d_Model_capacity_46 : decode prog_7_method_9_code 46 = .ok (.aload_n 0, 1) := by decide +kernel
theorem d_Model_capacity_47 : decode prog_7_method_9_code 47 = .ok (.getfield 13, 3) := by decide +kernel
theorem d_Model_capacity_50 : decode prog_7_method_9_code 50 = .ok (.iload_n 1, 1) := by decide +kernel
theorem d_Model_capacity_51 : decode prog_7_method_9_code 51 = .ok (.iload_n 3, 1) := by decide +kernel
theorem d_Model_capacity_52 : decode prog_7_method_9_code 52 = .ok (.iastore, 1) := by decide +kernel
theorem d_Model_capacity_53 : decode prog_7_method_9_code 53 = .ok (.aload_n 0, 1) := by decide +kernel
theorem d_Model_capacity_54 : decode prog_7_method_9_code 54 = .ok (.getfield 16, 3) := by decide +kernel
theorem d_Model_capacity_57 : decode prog_7_method_9_code 57 = .ok (.iload_n 1, 1) := by decide +kernel
theorem d_Model_capacity_58 : decode prog_7_method_9_code 58 = .ok (.iload_n 2, 1) := by decide +kernel
theorem d_Model_capacity_59 : decode prog_7_method_9_code 59 = .ok (.iastore, 1) := by decide +kernel
theorem d_Model_capacity_60 : decode prog_7_method_9_code 60 = .ok (.return_, 1) := by decide +kernel
theorem d_Model_edge_0 : decode prog_7_method_10_code 0 = .ok (.aload_n 0, 1) := by decide +kernel
theorem d_Model_edge_1 : decode prog_7_method_10_code 1 = .ok (.iload_n 1, 1) := by decide +kernel
theorem d_Model_edge_2 : decode prog_7_method_10_code 2 = .ok (.invokestatic 122, 3) := by decide +kernel
theorem d_Model_edge_5 : decode prog_7_method_10_code 5 = .ok (.ifCond .eq 19, 3) := by decide +kernel
theorem d_Model_edge_8 : decode prog_7_method_10_code 8 = .ok (.iload_n 2, 1) := by decide +kernel
theorem d_Model_edge_9 : decode prog_7_method_10_code 9 = .ok (.invokestatic 122, 3) := by decide +kernel
theorem d_Model_edge_12 : decode prog_7_method_10_code 12 = .ok (.ifCond .eq 12, 3) := by decide +kernel
theorem d_Model_edge_15 : decode prog_7_method_10_code 15 = .ok (.iload_n 1, 1) := by decide +kernel
theorem d_Model_edge_16 : decode prog_7_method_10_code 16 = .ok (.iload_n 2, 1) := by decide +kernel
theorem d_Model_edge_17 : decode prog_7_method_10_code 17 = .ok (.if_icmp .eq 7, 3) := by decide +kernel
theorem d_Model_edge_20 : decode prog_7_method_10_code 20 = .ok (.iconst 1, 1) := by decide +kernel
theorem d_Model_edge_21 : decode prog_7_method_10_code 21 = .ok (.goto 4, 3) := by decide +kernel
theorem d_Model_edge_24 : decode prog_7_method_10_code 24 = .ok (.iconst 0, 1) := by decide +kernel
theorem d_Model_edge_25 : decode prog_7_method_10_code 25 = .ok (.iload_n 3, 1) := by decide +kernel
theorem d_Model_edge_26 : decode prog_7_method_10_code 26 = .ok (.iconst 0, 1) := by decide +kernel
theorem d_Model_edge_27 : decode prog_7_method_10_code 27 = .ok (.sipush 500, 3) := by decide +kernel
theorem d_Model_edge_30 : decode prog_7_method_10_code 30 = .ok (.invokestatic 114, 3) := by decide +kernel
theorem d_Model_edge_33 : decode prog_7_method_10_code 33 = .ok (.ifCond .eq 19, 3) := by decide +kernel
theorem d_Model_edge_36 : decode prog_7_method_10_code 36 = .ok (.iload 4, 2) := by decide +kernel
theorem d_Model_edge_38 : decode prog_7_method_10_code 38 = .ok (.iload_n 3, 1) := by decide +kernel
theorem d_Model_edge_39 : decode prog_7_method_10_code 39 = .ok (.sipush 500, 3) := by decide +kernel
theorem d_Model_edge_42 : decode prog_7_method_10_code 42 = .ok (.invokestatic 114, 3) := by decide +kernel
theorem d_Model_edge_45 : decode prog_7_method_10_code 45 = .ok (.ifCond .eq 7, 3) := by decide +kernel
theorem d_Model_edge_48 : decode prog_7_method_10_code 48 = .ok (.iconst 1, 1) := by decide +kernel
theorem d_Model_edge_49 : decode prog_7_method_10_code 49 = .ok (.goto 4, 3) := by decide +kernel
theorem d_Model_edge_52 : decode prog_7_method_10_code 52 = .ok (.iconst 0, 1) := by decide +kernel
theorem d_Model_edge_53 : decode prog_7_method_10_code 53 = .ok (.invokevirtual 118, 3) := by decide +kernel
theorem d_Model_edge_56 : decode prog_7_method_10_code 56 = .ok (.ifCond .le 4, 3) := by decide +kernel
theorem d_Model_edge_59 : decode prog_7_method_10_code 59 = .ok (.return_, 1) := by decide +kernel
theorem d_Model_edge_60 : decode prog_7_method_10_code 60 = .ok (.iconst 0, 1) := by decide +kernel
theorem d_Model_edge_61 : decode prog_7_method_10_code 61 = .ok (.istore 5, 2) := by decide +kernel
theorem d_Model_edge_63 : decode prog_7_method_10_code 63 = .ok (.iload 5, 2) := by decide +kernel
theorem d_Model_edge_65 : decode prog_7_method_10_code 65 = .ok (.iconst 2, 1) := by decide +kernel
theorem d_Model_edge_66 : decode prog_7_method_10_code 66 = .ok (.if_icmp .ge 56, 3) := by decide +kernel
theorem d_Model_edge_69 : decode prog_7_method_10_code 69 = .ok (.iload 5, 2) := by decide +kernel
theorem d_Model_edge_71 : decode prog_7_method_10_code 71 = .ok (.ifCond .ne 12, 3) := by decide +kernel
theorem d_Model_edge_74 : decode prog_7_method_10_code 74 = .ok (.bipush 7, 2) := by decide +kernel
theorem d_Model_edge_76 : decode prog_7_method_10_code 76 = .ok (.iload_n 1, 1) := by decide +kernel
theorem d_Model_edge_77 : decode prog_7_method_10_code 77 = .ok (.imul, 1) := by decide +kernel
theorem d_Model_edge_78 : decode prog_7_method_10_code 78 = .ok (.iload_n 2, 1) := by decide +kernel
theorem d_Model_edge_79 : decode prog_7_method_10_code 79 = .ok (.iadd, 1) := by decide +kernel
theorem d_Model_edge_80 : decode prog_7_method_10_code 80 = .ok (.goto 9, 3) := by decide +kernel
theorem d_Model_edge_83 : decode prog_7_method_10_code 83 = .ok (.bipush 7, 2) := by decide +kernel
theorem d_Model_edge_85 : decode prog_7_method_10_code 85 = .ok (.iload_n 2, 1) := by decide +kernel
theorem d_Model_edge_86 : decode prog_7_method_10_code 86 = .ok (.imul, 1) := by decide +kernel
theorem d_Model_edge_87 : decode prog_7_method_10_code 87 = .ok (.iload_n 1, 1) := by decide +kernel
theorem d_Model_edge_88 : decode prog_7_method_10_code 88 = .ok (.iadd, 1) := by decide +kernel
theorem d_Model_edge_89 : decode prog_7_method_10_code 89 = .ok (.istore 6, 2) := by decide +kernel
theorem d_Model_edge_91 : decode prog_7_method_10_code 91 = .ok (.aload_n 0, 1) := by decide +kernel
theorem d_Model_edge_92 : decode prog_7_method_10_code 92 = .ok (.getfield 19, 3) := by decide +kernel
theorem d_Model_edge_95 : decode prog_7_method_10_code 95 = .ok (.iload 6, 2) := by decide +kernel
theorem d_Model_edge_97 : decode prog_7_method_10_code 97 = .ok (.iload_n 3, 1) := by decide +kernel
theorem d_Model_edge_98 : decode prog_7_method_10_code 98 = .ok (.iastore, 1) := by decide +kernel
theorem d_Model_edge_99 : decode prog_7_method_10_code 99 = .ok (.aload_n 0, 1) := by decide +kernel
theorem d_Model_edge_100 : decode prog_7_method_10_code 100 = .ok (.getfield 22, 3) := by decide +kernel
theorem d_Model_edge_103 : decode prog_7_method_10_code 103 = .ok (.iload 6, 2) := by decide +kernel
theorem d_Model_edge_105 : decode prog_7_method_10_code 105 = .ok (.iload 4, 2) := by decide +kernel
theorem d_Model_edge_107 : decode prog_7_method_10_code 107 = .ok (.iastore, 1) := by decide +kernel
theorem d_Model_edge_108 : decode prog_7_method_10_code 108 = .ok (.aload_n 0, 1) := by decide +kernel
theorem d_Model_edge_109 : decode prog_7_method_10_code 109 = .ok (.getfield 25, 3) := by decide +kernel
theorem d_Model_edge_112 : decode prog_7_method_10_code 112 = .ok (.iload 6, 2) := by decide +kernel
theorem d_Model_edge_114 : decode prog_7_method_10_code 114 = .ok (.iload_n 3, 1) := by decide +kernel
theorem d_Model_edge_115 : decode prog_7_method_10_code 115 = .ok (.iastore, 1) := by decide +kernel
theorem d_Model_edge_116 : decode prog_7_method_10_code 116 = .ok (.iinc 5 1, 3) := by decide +kernel
theorem d_Model_edge_119 : decode prog_7_method_10_code 119 = .ok (.goto (-56), 3) := by decide +kernel
theorem d_Model_edge_122 : decode prog_7_method_10_code 122 = .ok (.return_, 1) := by decide +kernel
theorem d_Model_limit_0 : decode prog_7_method_11_code 0 = .ok (.aload_n 0, 1) := by decide +kernel
theorem d_Model_limit_1 : decode prog_7_method_11_code 1 = .ok (.iload_n 1, 1) := by decide +kernel
theorem d_Model_limit_2 : decode prog_7_method_11_code 2 = .ok (.invokestatic 110, 3) := by decide +kernel
theorem d_Model_limit_5 : decode prog_7_method_11_code 5 = .ok (.iload_n 2, 1) := by decide +kernel
theorem d_Model_limit_6 : decode prog_7_method_11_code 6 = .ok (.iconst 0, 1) := by decide +kernel
theorem d_Model_limit_7 : decode prog_7_method_11_code 7 = .ok (.ldc 125, 2) := by decide +kernel
theorem d_Model_limit_9 : decode prog_7_method_11_code 9 = .ok (.invokestatic 114, 3) := by decide +kernel
theorem d_Model_limit_12 : decode prog_7_method_11_code 12 = .ok (.invokevirtual 118, 3) := by decide +kernel
theorem d_Model_limit_15 : decode prog_7_method_11_code 15 = .ok (.ifCond .ne 10, 3) := by decide +kernel
theorem d_Model_limit_18 : decode prog_7_method_11_code 18 = .ok (.aload_n 0, 1) := by decide +kernel
theorem d_Model_limit_19 : decode prog_7_method_11_code 19 = .ok (.getfield 28, 3) := by decide +kernel
theorem d_Model_limit_22 : decode prog_7_method_11_code 22 = .ok (.iload_n 1, 1) := by decide +kernel
theorem d_Model_limit_23 : decode prog_7_method_11_code 23 = .ok (.iload_n 2, 1) := by decide +kernel
theorem d_Model_limit_24 : decode prog_7_method_11_code 24 = .ok (.iastore, 1) := by decide +kernel
theorem d_Model_limit_25 : decode prog_7_method_11_code 25 = .ok (.return_, 1) := by decide +kernel
theorem d_Model_air_0 : decode prog_7_method_12_code 0 = .ok (.aload_n 0, 1) := by decide +kernel
theorem d_Model_air_1 : decode prog_7_method_12_code 1 = .ok (.iload_n 1, 1) := by decide +kernel
theorem d_Model_air_2 : decode prog_7_method_12_code 2 = .ok (.ifCond .lt 19, 3) := by decide +kernel
theorem d_Model_air_5 : decode prog_7_method_12_code 5 = .ok (.iload_n 2, 1) := by decide +kernel
theorem d_Model_air_6 : decode prog_7_method_12_code 6 = .ok (.iload_n 1, 1) := by decide +kernel
theorem d_Model_air_7 : decode prog_7_method_12_code 7 = .ok (.if_icmp .lt 14, 3) := by decide +kernel
theorem d_Model_air_10 : decode prog_7_method_12_code 10 = .ok (.iload_n 3, 1) := by decide +kernel
theorem d_Model_air_11 : decode prog_7_method_12_code 11 = .ok (.iload_n 2, 1) := by decide +kernel
theorem d_Model_air_12 : decode prog_7_method_12_code 12 = .ok (.if_icmp .lt 9, 3) := by decide +kernel
theorem d_Model_air_15 : decode prog_7_method_12_code 15 = .ok (.iload_n 3, 1) := by decide +kernel
theorem d_Model_air_16 : decode prog_7_method_12_code 16 = .ok (.ldc 125, 2) := by decide +kernel
theorem d_Model_air_18 : decode prog_7_method_12_code 18 = .ok (.if_icmp .le 7, 3) := by decide +kernel
theorem d_Model_air_21 : decode prog_7_method_12_code 21 = .ok (.iconst 1, 1) := by decide +kernel
theorem d_Model_air_22 : decode prog_7_method_12_code 22 = .ok (.goto 15, 3) := by decide +kernel
theorem d_Model_air_25 : decode prog_7_method_12_code 25 = .ok (.aload_n 0, 1) := by decide +kernel
theorem d_Model_air_26 : decode prog_7_method_12_code 26 = .ok (.getfield 82, 3) := by decide +kernel
theorem d_Model_air_29 : decode prog_7_method_12_code 29 = .ok (.ifCond .eq 7, 3) := by decide +kernel
theorem d_Model_air_32 : decode prog_7_method_12_code 32 = .ok (.iconst 2, 1) := by decide +kernel
theorem d_Model_air_33 : decode prog_7_method_12_code 33 = .ok (.goto 4, 3) := by decide +kernel
theorem d_Model_air_36 : decode prog_7_method_12_code 36 = .ok (.iconst 0, 1) := by decide +kernel
theorem d_Model_air_37 : decode prog_7_method_12_code 37 = .ok (.putfield 78, 3) := by decide +kernel
theorem d_Model_air_40 : decode prog_7_method_12_code 40 = .ok (.aload_n 0, 1) := by decide +kernel
theorem d_Model_air_41 : decode prog_7_method_12_code 41 = .ok (.getfield 78, 3) := by decide +kernel
theorem d_Model_air_44 : decode prog_7_method_12_code 44 = .ok (.ifCond .le 4, 3) := by decide +kernel
theorem d_Model_air_47 : decode prog_7_method_12_code 47 = .ok (.return_, 1) := by decide +kernel
theorem d_Model_air_48 : decode prog_7_method_12_code 48 = .ok (.aload_n 0, 1) := by decide +kernel
theorem d_Model_air_49 : decode prog_7_method_12_code 49 = .ok (.iload_n 1, 1) := by decide +kernel
theorem d_Model_air_50 : decode prog_7_method_12_code 50 = .ok (.putfield 86, 3) := by decide +kernel
theorem d_Model_air_53 : decode prog_7_method_12_code 53 = .ok (.aload_n 0, 1) := by decide +kernel
theorem d_Model_air_54 : decode prog_7_method_12_code 54 = .ok (.iload_n 2, 1) := by decide +kernel
theorem d_Model_air_55 : decode prog_7_method_12_code 55 = .ok (.putfield 89, 3) := by decide +kernel
theorem d_Model_air_58 : decode prog_7_method_12_code 58 = .ok (.aload_n 0, 1) := by decide +kernel
theorem d_Model_air_59 : decode prog_7_method_12_code 59 = .ok (.iload_n 3, 1) := by decide +kernel
theorem d_Model_air_60 : decode prog_7_method_12_code 60 = .ok (.putfield 92, 3) := by decide +kernel
theorem d_Model_air_63 : decode prog_7_method_12_code 63 = .ok (.return_, 1) := by decide +kernel
theorem d_Model_power_0 : decode prog_7_method_13_code 0 = .ok (.iload_n 1, 1) := by decide +kernel
theorem d_Model_power_1 : decode prog_7_method_13_code 1 = .ok (.invokestatic 126, 3) := by decide +kernel
theorem d_Model_power_4 : decode prog_7_method_13_code 4 = .ok (.ifCond .eq 48, 3) := by decide +kernel
theorem d_Model_power_7 : decode prog_7_method_13_code 7 = .ok (.iload_n 2, 1) := by decide +kernel
theorem d_Model_power_8 : decode prog_7_method_13_code 8 = .ok (.iload_n 1, 1) := by decide +kernel
theorem d_Model_power_9 : decode prog_7_method_13_code 9 = .ok (.ifCond .ne 7, 3) := by decide +kernel
theorem d_Model_power_12 : decode prog_7_method_13_code 12 = .ok (.iconst 0, 1) := by decide +kernel
theorem d_Model_power_13 : decode prog_7_method_13_code 13 = .ok (.goto 11, 3) := by decide +kernel
theorem d_Model_power_16 : decode prog_7_method_13_code 16 = .ok (.aload_n 0, 1) := by decide +kernel
theorem d_Model_power_17 : decode prog_7_method_13_code 17 = .ok (.getfield 31, 3) := by decide +kernel
theorem d_Model_power_20 : decode prog_7_method_13_code 20 = .ok (.iload_n 1, 1) := by decide +kernel
theorem d_Model_power_21 : decode prog_7_method_13_code 21 = .ok (.iconst 1, 1) := by decide +kernel
theorem d_Model_power_22 : decode prog_7_method_13_code 22 = .ok (.isub, 1) := by decide +kernel
theorem d_Model_power_23 : decode prog_7_method_13_code 23 = .ok (.iaload, 1) := by decide +kernel
theorem d_Model_power_24 : decode prog_7_method_13_code 24 = .ok (.iload_n 1, 1) := by decide +kernel
theorem d_Model_power_25 : decode prog_7_method_13_code 25 = .ok (.iconst 3, 1) := by decide +kernel
theorem d_Model_power_26 : decode prog_7_method_13_code 26 = .ok (.if_icmp .ne 8, 3) := by decide +kernel
theorem d_Model_power_29 : decode prog_7_method_13_code 29 = .ok (.ldc 129, 2) := by decide +kernel
theorem d_Model_power_31 : decode prog_7_method_13_code 31 = .ok (.goto 11, 3) := by decide +kernel
theorem d_Model_power_34 : decode prog_7_method_13_code 34 = .ok (.aload_n 0, 1) := by decide +kernel
theorem d_Model_power_35 : decode prog_7_method_13_code 35 = .ok (.getfield 31, 3) := by decide +kernel
theorem d_Model_power_38 : decode prog_7_method_13_code 38 = .ok (.iload_n 1, 1) := by decide +kernel
theorem d_Model_power_39 : decode prog_7_method_13_code 39 = .ok (.iconst 1, 1) := by decide +kernel
theorem d_Model_power_40 : decode prog_7_method_13_code 40 = .ok (.iadd, 1) := by decide +kernel
theorem d_Model_power_41 : decode prog_7_method_13_code 41 = .ok (.iaload, 1) := by decide +kernel
theorem d_Model_power_42 : decode prog_7_method_13_code 42 = .ok (.invokestatic 114, 3) := by decide +kernel
theorem d_Model_power_45 : decode prog_7_method_13_code 45 = .ok (.ifCond .eq 7, 3) := by decide +kernel
theorem d_Model_power_48 : decode prog_7_method_13_code 48 = .ok (.iconst 1, 1) := by decide +kernel
theorem d_Model_power_49 : decode prog_7_method_13_code 49 = .ok (.goto 4, 3) := by decide +kernel
theorem d_Model_power_52 : decode prog_7_method_13_code 52 = .ok (.iconst 0, 1) := by decide +kernel
theorem d_Model_power_53 : decode prog_7_method_13_code 53 = .ok (.istore_n 3, 1) := by decide +kernel
theorem d_Model_power_54 : decode prog_7_method_13_code 54 = .ok (.aload_n 0, 1) := by decide +kernel
theorem d_Model_power_55 : decode prog_7_method_13_code 55 = .ok (.iload_n 1, 1) := by decide +kernel
theorem d_Model_power_56 : decode prog_7_method_13_code 56 = .ok (.invokestatic 126, 3) := by decide +kernel
theorem d_Model_power_59 : decode prog_7_method_13_code 59 = .ok (.iload_n 3, 1) := by decide +kernel
theorem d_Model_power_60 : decode prog_7_method_13_code 60 = .ok (.ifCond .eq 13, 3) := by decide +kernel
theorem d_Model_power_63 : decode prog_7_method_13_code 63 = .ok (.iload_n 2, 1) := by decide +kernel
theorem d_Model_power_64 : decode prog_7_method_13_code 64 = .ok (.ldc 129, 2) := by decide +kernel
theorem d_Model_power_66 : decode prog_7_method_13_code 66 = .ok (.if_icmp .gt 7, 3) := by decide +kernel
theorem d_Model_power_69 : decode prog_7_method_13_code 69 = .ok (.iconst 1, 1) := by decide +kernel
theorem d_Model_power_70 : decode prog_7_method_13_code 70 = .ok (.goto 4, 3) := by decide +kernel
theorem d_Model_power_73 : decode prog_7_method_13_code 73 = .ok (.iconst 0, 1) := by decide +kernel
theorem d_Model_power_74 : decode prog_7_method_13_code 74 = .ok (.invokevirtual 118, 3) := by decide +kernel
theorem d_Model_power_77 : decode prog_7_method_13_code 77 = .ok (.ifCond .ne 10, 3) := by decide +kernel
theorem d_Model_power_80 : decode prog_7_method_13_code 80 = .ok (.aload_n 0, 1) := by decide +kernel
theorem d_Model_power_81 : decode prog_7_method_13_code 81 = .ok (.getfield 31, 3) := by decide +kernel
theorem d_Model_power_84 : decode prog_7_method_13_code 84 = .ok (.iload_n 1, 1) := by decide +kernel
theorem d_Model_power_85 : decode prog_7_method_13_code 85 = .ok (.iload_n 2, 1) := by decide +kernel
theorem d_Model_power_86 : decode prog_7_method_13_code 86 = .ok (.iastore, 1) := by decide +kernel
theorem d_Model_power_87 : decode prog_7_method_13_code 87 = .ok (.return_, 1) := by decide +kernel
theorem d_Model_leak_0 : decode prog_7_method_14_code 0 = .ok (.iload_n 1, 1) := by decide +kernel
theorem d_Model_leak_1 : decode prog_7_method_14_code 1 = .ok (.iconst 0, 1) := by decide +kernel
theorem d_Model_leak_2 : decode prog_7_method_14_code 2 = .ok (.ldc 130, 2) := by decide +kernel
theorem d_Model_leak_4 : decode prog_7_method_14_code 4 = .ok (.invokestatic 114, 3) := by decide +kernel
theorem d_Model_leak_7 : decode prog_7_method_14_code 7 = .ok (.ifCond .eq 38, 3) := by decide +kernel
theorem d_Model_leak_10 : decode prog_7_method_14_code 10 = .ok (.iload_n 2, 1) := by decide +kernel
theorem d_Model_leak_11 : decode prog_7_method_14_code 11 = .ok (.iconst 0, 1) := by decide +kernel
theorem d_Model_leak_12 : decode prog_7_method_14_code 12 = .ok (.bipush 100, 2) := by decide +kernel
theorem d_Model_leak_14 : decode prog_7_method_14_code 14 = .ok (.invokestatic 114, 3) := by decide +kernel
theorem d_Model_leak_17 : decode prog_7_method_14_code 17 = .ok (.ifCond .eq 28, 3) := by decide +kernel
theorem d_Model_leak_20 : decode prog_7_method_14_code 20 = .ok (.iload_n 3, 1) := by decide +kernel
theorem d_Model_leak_21 : decode prog_7_method_14_code 21 = .ok (.iconst 0, 1) := by decide +kernel
theorem d_Model_leak_22 : decode prog_7_method_14_code 22 = .ok (.bipush 100, 2) := by decide +kernel
theorem d_Model_leak_24 : decode prog_7_method_14_code 24 = .ok (.invokestatic 114, 3) := by decide +kernel
theorem d_Model_leak_27 : decode prog_7_method_14_code 27 = .ok (.ifCond .eq 18, 3) := by decide +kernel
theorem d_Model_leak_30 : decode prog_7_method_14_code 30 = .ok (.iload 4, 2) := by decide +kernel
theorem d_Model_leak_32 : decode prog_7_method_14_code 32 = .ok (.iconst 0, 1) := by decide +kernel
theorem d_Model_leak_33 : decode prog_7_method_14_code 33 = .ok (.ldc 125, 2) := by decide +kernel
theorem d_Model_leak_35 : decode prog_7_method_14_code 35 = .ok (.invokestatic 114, 3) := by decide +kernel
theorem d_Model_leak_38 : decode prog_7_method_14_code 38 = .ok (.ifCond .eq 7, 3) := by decide +kernel
theorem d_Model_leak_41 : decode prog_7_method_14_code 41 = .ok (.iconst 1, 1) := by decide +kernel
theorem d_Model_leak_42 : decode prog_7_method_14_code 42 = .ok (.goto 4, 3) := by decide +kernel
theorem d_Model_leak_45 : decode prog_7_method_14_code 45 = .ok (.iconst 0, 1) := by decide +kernel
theorem d_Model_leak_46 : decode prog_7_method_14_code 46 = .ok (.istore 5, 2) := by decide +kernel
theorem d_Model_leak_48 : decode prog_7_method_14_code 48 = .ok (.aload_n 0, 1) := by decide +kernel
theorem d_Model_leak_49 : decode prog_7_method_14_code 49 = .ok (.iload 5, 2) := by decide +kernel
theorem d_Model_leak_51 : decode prog_7_method_14_code 51 = .ok (.ifCond .ne 7, 3) := by decide +kernel
theorem d_Model_leak_54 : decode prog_7_method_14_code 54 = .ok (.iconst 1, 1) := by decide +kernel
theorem d_Model_leak_55 : decode prog_7_method_14_code 55 = .ok (.goto 15, 3) := by decide +kernel
theorem d_Model_leak_58 : decode prog_7_method_14_code 58 = .ok (.aload_n 0, 1) := by decide +kernel
theorem d_Model_leak_59 : decode prog_7_method_14_code 59 = .ok (.getfield 82, 3) := by decide +kernel
theorem d_Model_leak_62 : decode prog_7_method_14_code 62 = .ok (.ifCond .eq 7, 3) := by decide +kernel
theorem d_Model_leak_65 : decode prog_7_method_14_code 65 = .ok (.iconst 2, 1) := by decide +kernel
theorem d_Model_leak_66 : decode prog_7_method_14_code 66 = .ok (.goto 4, 3) := by decide +kernel
theorem d_Model_leak_69 : decode prog_7_method_14_code 69 = .ok (.iconst 0, 1) := by decide +kernel
theorem d_Model_leak_70 : decode prog_7_method_14_code 70 = .ok (.putfield 78, 3) := by decide +kernel
theorem d_Model_leak_73 : decode prog_7_method_14_code 73 = .ok (.aload_n 0, 1) := by decide +kernel
theorem d_Model_leak_74 : decode prog_7_method_14_code 74 = .ok (.getfield 78, 3) := by decide +kernel
theorem d_Model_leak_77 : decode prog_7_method_14_code 77 = .ok (.ifCond .le 4, 3) := by decide +kernel
theorem d_Model_leak_80 : decode prog_7_method_14_code 80 = .ok (.return_, 1) := by decide +kernel
theorem d_Model_leak_81 : decode prog_7_method_14_code 81 = .ok (.aload_n 0, 1) := by decide +kernel
theorem d_Model_leak_82 : decode prog_7_method_14_code 82 = .ok (.iload_n 1, 1) := by decide +kernel
theorem d_Model_leak_83 : decode prog_7_method_14_code 83 = .ok (.putfield 95, 3) := by decide +kernel
theorem d_Model_leak_86 : decode prog_7_method_14_code 86 = .ok (.aload_n 0, 1) := by decide +kernel
theorem d_Model_leak_87 : decode prog_7_method_14_code 87 = .ok (.iload_n 2, 1) := by decide +kernel
theorem d_Model_leak_88 : decode prog_7_method_14_code 88 = .ok (.putfield 98, 3) := by decide +kernel
theorem d_Model_leak_91 : decode prog_7_method_14_code 91 = .ok (.aload_n 0, 1) := by decide +kernel
theorem d_Model_leak_92 : decode prog_7_method_14_code 92 = .ok (.iload_n 3, 1) := by decide +kernel
theorem d_Model_leak_93 : decode prog_7_method_14_code 93 = .ok (.putfield 101, 3) := by decide +kernel
theorem d_Model_leak_96 : decode prog_7_method_14_code 96 = .ok (.aload_n 0, 1) := by decide +kernel
theorem d_Model_leak_97 : decode prog_7_method_14_code 97 = .ok (.iload 4, 2) := by decide +kernel
theorem d_Model_leak_99 : decode prog_7_method_14_code 99 = .ok (.putfield 104, 3) := by decide +kernel
theorem d_Model_leak_102 : decode prog_7_method_14_code 102 = .ok (.return_, 1) := by decide +kernel
theorem d_Model_truth_0 : decode prog_7_method_15_code 0 = .ok (.iload_n 1, 1) := by decide +kernel
theorem d_Model_truth_1 : decode prog_7_method_15_code 1 = .ok (.invokestatic 122, 3) := by decide +kernel
theorem d_Model_truth_4 : decode prog_7_method_15_code 4 = .ok (.ifCond .eq 25, 3) := by decide +kernel
theorem d_Model_truth_7 : decode prog_7_method_15_code 7 = .ok (.iload_n 2, 1) := by decide +kernel
theorem d_Model_truth_8 : decode prog_7_method_15_code 8 = .ok (.invokestatic 122, 3) := by decide +kernel
theorem d_Model_truth_11 : decode prog_7_method_15_code 11 = .ok (.ifCond .eq 18, 3) := by decide +kernel
theorem d_Model_truth_14 : decode prog_7_method_15_code 14 = .ok (.iload_n 1, 1) := by decide +kernel
theorem d_Model_truth_15 : decode prog_7_method_15_code 15 = .ok (.iload_n 2, 1) := by decide +kernel
theorem d_Model_truth_16 : decode prog_7_method_15_code 16 = .ok (.if_icmp .ne 9, 3) := by decide +kernel
theorem d_Model_truth_19 : decode prog_7_method_15_code 19 = .ok (.iload_n 1, 1) := by decide +kernel
theorem d_Model_truth_20 : decode prog_7_method_15_code 20 = .ok (.bipush 6, 2) := by decide +kernel
theorem d_Model_truth_22 : decode prog_7_method_15_code 22 = .ok (.if_icmp .eq 7, 3) := by decide +kernel
theorem d_Model_truth_25 : decode prog_7_method_15_code 25 = .ok (.iconst 1, 1) := by decide +kernel
theorem d_Model_truth_26 : decode prog_7_method_15_code 26 = .ok (.goto 4, 3) := by decide +kernel
theorem d_Model_truth_29 : decode prog_7_method_15_code 29 = .ok (.iconst 0, 1) := by decide +kernel
theorem d_Model_truth_30 : decode prog_7_method_15_code 30 = .ok (.istore 4, 2) := by decide +kernel
theorem d_Model_truth_32 : decode prog_7_method_15_code 32 = .ok (.iload 4, 2) := by decide +kernel
theorem d_Model_truth_34 : decode prog_7_method_15_code 34 = .ok (.ifCond .eq 63, 3) := by decide +kernel
theorem d_Model_truth_37 : decode prog_7_method_15_code 37 = .ok (.iload_n 1, 1) := by decide +kernel
theorem d_Model_truth_38 : decode prog_7_method_15_code 38 = .ok (.iload_n 2, 1) := by decide +kernel
theorem d_Model_truth_39 : decode prog_7_method_15_code 39 = .ok (.if_icmp .ne 25, 3) := by decide +kernel
theorem d_Model_truth_42 : decode prog_7_method_15_code 42 = .ok (.iload_n 3, 1) := by decide +kernel
theorem d_Model_truth_43 : decode prog_7_method_15_code 43 = .ok (.aload_n 0, 1) := by decide +kernel
theorem d_Model_truth_44 : decode prog_7_method_15_code 44 = .ok (.getfield 7, 3) := by decide +kernel
theorem d_Model_truth_47 : decode prog_7_method_15_code 47 = .ok (.iload_n 1, 1) := by decide +kernel
theorem d_Model_truth_48 : decode prog_7_method_15_code 48 = .ok (.iaload, 1) := by decide +kernel
theorem d_Model_truth_49 : decode prog_7_method_15_code 49 = .ok (.aload_n 0, 1) := by decide +kernel
theorem d_Model_truth_50 : decode prog_7_method_15_code 50 = .ok (.getfield 13, 3) := by decide +kernel
theorem d_Model_truth_53 : decode prog_7_method_15_code 53 = .ok (.iload_n 1, 1) := by decide +kernel
theorem d_Model_truth_54 : decode prog_7_method_15_code 54 = .ok (.iaload, 1) := by decide +kernel
theorem d_Model_truth_55 : decode prog_7_method_15_code 55 = .ok (.invokestatic 114, 3) := by decide +kernel
theorem d_Model_truth_58 : decode prog_7_method_15_code 58 = .ok (.ifCond .eq 39, 3) := by decide +kernel
theorem d_Model_truth_61 : decode prog_7_method_15_code 61 = .ok (.goto 32, 3) := by decide +kernel
theorem d_Model_truth_64 : decode prog_7_method_15_code 64 = .ok (.iload_n 3, 1) := by decide +kernel
theorem d_Model_truth_65 : decode prog_7_method_15_code 65 = .ok (.aload_n 0, 1) := by decide +kernel
theorem d_Model_truth_66 : decode prog_7_method_15_code 66 = .ok (.getfield 19, 3) := by decide +kernel
theorem d_Model_truth_69 : decode prog_7_method_15_code 69 = .ok (.bipush 7, 2) := by decide +kernel
theorem d_Model_truth_71 : decode prog_7_method_15_code 71 = .ok (.iload_n 1, 1) := by decide +kernel
theorem d_Model_truth_72 : decode prog_7_method_15_code 72 = .ok (.imul, 1) := by decide +kernel
theorem d_Model_truth_73 : decode prog_7_method_15_code 73 = .ok (.iload_n 2, 1) := by decide +kernel
theorem d_Model_truth_74 : decode prog_7_method_15_code 74 = .ok (.iadd, 1) := by decide +kernel
theorem d_Model_truth_75 : decode prog_7_method_15_code 75 = .ok (.iaload, 1) := by decide +kernel
theorem d_Model_truth_76 : decode prog_7_method_15_code 76 = .ok (.aload_n 0, 1) := by decide +kernel
theorem d_Model_truth_77 : decode prog_7_method_15_code 77 = .ok (.getfield 22, 3) := by decide +kernel
theorem d_Model_truth_80 : decode prog_7_method_15_code 80 = .ok (.bipush 7, 2) := by decide +kernel
theorem d_Model_truth_82 : decode prog_7_method_15_code 82 = .ok (.iload_n 1, 1) := by decide +kernel
theorem d_Model_truth_83 : decode prog_7_method_15_code 83 = .ok (.imul, 1) := by decide +kernel
theorem d_Model_truth_84 : decode prog_7_method_15_code 84 = .ok (.iload_n 2, 1) := by decide +kernel
theorem d_Model_truth_85 : decode prog_7_method_15_code 85 = .ok (.iadd, 1) := by decide +kernel
theorem d_Model_truth_86 : decode prog_7_method_15_code 86 = .ok (.iaload, 1) := by decide +kernel
theorem d_Model_truth_87 : decode prog_7_method_15_code 87 = .ok (.invokestatic 114, 3) := by decide +kernel
theorem d_Model_truth_90 : decode prog_7_method_15_code 90 = .ok (.ifCond .eq 7, 3) := by decide +kernel
theorem d_Model_truth_93 : decode prog_7_method_15_code 93 = .ok (.iconst 1, 1) := by decide +kernel
theorem d_Model_truth_94 : decode prog_7_method_15_code 94 = .ok (.goto 4, 3) := by decide +kernel
theorem d_Model_truth_97 : decode prog_7_method_15_code 97 = .ok (.iconst 0, 1) := by decide +kernel
theorem d_Model_truth_98 : decode prog_7_method_15_code 98 = .ok (.istore 5, 2) := by decide +kernel
theorem d_Model_truth_100 : decode prog_7_method_15_code 100 = .ok (.aload_n 0, 1) := by decide +kernel
theorem d_Model_truth_101 : decode prog_7_method_15_code 101 = .ok (.iload 4, 2) := by decide +kernel
theorem d_Model_truth_103 : decode prog_7_method_15_code 103 = .ok (.iload 5, 2) := by decide +kernel
theorem d_Model_truth_105 : decode prog_7_method_15_code 105 = .ok (.invokevirtual 118, 3) := by decide +kernel
theorem d_Model_truth_108 : decode prog_7_method_15_code 108 = .ok (.ifCond .le 4, 3) := by decide +kernel
theorem d_Model_truth_111 : decode prog_7_method_15_code 111 = .ok (.return_, 1) := by decide +kernel
theorem d_Model_truth_112 : decode prog_7_method_15_code 112 = .ok (.iload_n 1, 1) := by decide +kernel
theorem d_Model_truth_113 : decode prog_7_method_15_code 113 = .ok (.iload_n 2, 1) := by decide +kernel
theorem d_Model_truth_114 : decode prog_7_method_15_code 114 = .ok (.if_icmp .ne 13, 3) := by decide +kernel
theorem d_Model_truth_117 : decode prog_7_method_15_code 117 = .ok (.aload_n 0, 1) := by decide +kernel
theorem d_Model_truth_118 : decode prog_7_method_15_code 118 = .ok (.getfield 16, 3) := by decide +kernel
theorem d_Model_truth_121 : decode prog_7_method_15_code 121 = .ok (.iload_n 1, 1) := by decide +kernel
theorem d_Model_truth_122 : decode prog_7_method_15_code 122 = .ok (.iload_n 3, 1) := by decide +kernel
theorem d_Model_truth_123 : decode prog_7_method_15_code 123 = .ok (.iastore, 1) := by decide +kernel
theorem d_Model_truth_124 : decode prog_7_method_15_code 124 = .ok (.goto 27, 3) := by decide +kernel
theorem d_Model_truth_127 : decode prog_7_method_15_code 127 = .ok (.aload_n 0, 1) := by decide +kernel
theorem d_Model_truth_128 : decode prog_7_method_15_code 128 = .ok (.getfield 25, 3) := by decide +kernel
theorem d_Model_truth_131 : decode prog_7_method_15_code 131 = .ok (.bipush 7, 2) := by decide +kernel
theorem d_Model_truth_133 : decode prog_7_method_15_code 133 = .ok (.iload_n 1, 1) := by decide +kernel
theorem d_Model_truth_134 : decode prog_7_method_15_code 134 = .ok (.imul, 1) := by decide +kernel
theorem d_Model_truth_135 : decode prog_7_method_15_code 135 = .ok (.iload_n 2, 1) := by decide +kernel
theorem d_Model_truth_136 : decode prog_7_method_15_code 136 = .ok (.iadd, 1) := by decide +kernel
theorem d_Model_truth_137 : decode prog_7_method_15_code 137 = .ok (.iload_n 3, 1) := by decide +kernel
theorem d_Model_truth_138 : decode prog_7_method_15_code 138 = .ok (.iastore, 1) := by decide +kernel
theorem d_Model_truth_139 : decode prog_7_method_15_code 139 = .ok (.aload_n 0, 1) := by decide +kernel
theorem d_Model_truth_140 : decode prog_7_method_15_code 140 = .ok (.getfield 25, 3) := by decide +kernel
theorem d_Model_truth_143 : decode prog_7_method_15_code 143 = .ok (.bipush 7, 2) := by decide +kernel
theorem d_Model_truth_145 : decode prog_7_method_15_code 145 = .ok (.iload_n 2, 1) := by decide +kernel
theorem d_Model_truth_146 : decode prog_7_method_15_code 146 = .ok (.imul, 1) := by decide +kernel
theorem d_Model_truth_147 : decode prog_7_method_15_code 147 = .ok (.iload_n 1, 1) := by decide +kernel
theorem d_Model_truth_148 : decode prog_7_method_15_code 148 = .ok (.iadd, 1) := by decide +kernel
theorem d_Model_truth_149 : decode prog_7_method_15_code 149 = .ok (.iload_n 3, 1) := by decide +kernel
theorem d_Model_truth_150 : decode prog_7_method_15_code 150 = .ok (.iastore, 1) := by decide +kernel
theorem d_Model_truth_151 : decode prog_7_method_15_code 151 = .ok (.return_, 1) := by decide +kernel
theorem d_Model_leakAt_0 : decode prog_7_method_16_code 0 = .ok (.aload_n 0, 1) := by decide +kernel
theorem d_Model_leakAt_1 : decode prog_7_method_16_code 1 = .ok (.getfield 95, 3) := by decide +kernel
theorem d_Model_leakAt_4 : decode prog_7_method_16_code 4 = .ok (.i2l, 1) := by decide +kernel
theorem d_Model_leakAt_5 : decode prog_7_method_16_code 5 = .ok (.aload_n 0, 1) := by decide +kernel
theorem d_Model_leakAt_6 : decode prog_7_method_16_code 6 = .ok (.getfield 98, 3) := by decide +kernel
theorem d_Model_leakAt_9 : decode prog_7_method_16_code 9 = .ok (.i2l, 1) := by decide +kernel
theorem d_Model_leakAt_10 : decode prog_7_method_16_code 10 = .ok (.lload_n 1, 1) := by decide +kernel
theorem d_Model_leakAt_11 : decode prog_7_method_16_code 11 = .ok (.lmul, 1) := by decide +kernel
theorem d_Model_leakAt_12 : decode prog_7_method_16_code 12 = .ok (.ladd, 1) := by decide +kernel
theorem d_Model_leakAt_13 : decode prog_7_method_16_code 13 = .ok (.lload_n 1, 1) := by decide +kernel
theorem d_Model_leakAt_14 : decode prog_7_method_16_code 14 = .ok (.aload_n 0, 1) := by decide +kernel
theorem d_Model_leakAt_15 : decode prog_7_method_16_code 15 = .ok (.getfield 104, 3) := by decide +kernel
theorem d_Model_leakAt_18 : decode prog_7_method_16_code 18 = .ok (.i2l, 1) := by decide +kernel
theorem d_Model_leakAt_19 : decode prog_7_method_16_code 19 = .ok (.lcmp, 1) := by decide +kernel
theorem d_Model_leakAt_20 : decode prog_7_method_16_code 20 = .ok (.ifCond .le 19, 3) := by decide +kernel
theorem d_Model_leakAt_23 : decode prog_7_method_16_code 23 = .ok (.aload_n 0, 1) := by decide +kernel
theorem d_Model_leakAt_24 : decode prog_7_method_16_code 24 = .ok (.getfield 101, 3) := by decide +kernel
theorem d_Model_leakAt_27 : decode prog_7_method_16_code 27 = .ok (.i2l, 1) := by decide +kernel
theorem d_Model_leakAt_28 : decode prog_7_method_16_code 28 = .ok (.lload_n 1, 1) := by decide +kernel
theorem d_Model_leakAt_29 : decode prog_7_method_16_code 29 = .ok (.aload_n 0, 1) := by decide +kernel
theorem d_Model_leakAt_30 : decode prog_7_method_16_code 30 = .ok (.getfield 104, 3) := by decide +kernel
theorem d_Model_leakAt_33 : decode prog_7_method_16_code 33 = .ok (.i2l, 1) := by decide +kernel
theorem d_Model_leakAt_34 : decode prog_7_method_16_code 34 = .ok (.lsub, 1) := by decide +kernel
theorem d_Model_leakAt_35 : decode prog_7_method_16_code 35 = .ok (.lmul, 1) := by decide +kernel
theorem d_Model_leakAt_36 : decode prog_7_method_16_code 36 = .ok (.goto 4, 3) := by decide +kernel
theorem d_Model_leakAt_39 : decode prog_7_method_16_code 39 = .ok (.lconst 0, 1) := by decide +kernel
theorem d_Model_leakAt_40 : decode prog_7_method_16_code 40 = .ok (.ladd, 1) := by decide +kernel
theorem d_Model_leakAt_41 : decode prog_7_method_16_code 41 = .ok (.lreturn, 1) := by decide +kernel
theorem d_Model_down_0 : decode prog_7_method_17_code 0 = .ok (.lload_n 0, 1) := by decide +kernel
theorem d_Model_down_1 : decode prog_7_method_17_code 1 = .ok (.lload_n 2, 1) := by decide +kernel
theorem d_Model_down_2 : decode prog_7_method_17_code 2 = .ok (.ldiv, 1) := by decide +kernel
theorem d_Model_down_3 : decode prog_7_method_17_code 3 = .ok (.lstore 4, 2) := by decide +kernel
theorem d_Model_down_5 : decode prog_7_method_17_code 5 = .ok (.lload_n 0, 1) := by decide +kernel
theorem d_Model_down_6 : decode prog_7_method_17_code 6 = .ok (.lload_n 2, 1) := by decide +kernel
theorem d_Model_down_7 : decode prog_7_method_17_code 7 = .ok (.lrem, 1) := by decide +kernel
theorem d_Model_down_8 : decode prog_7_method_17_code 8 = .ok (.lconst 0, 1) := by decide +kernel
theorem d_Model_down_9 : decode prog_7_method_17_code 9 = .ok (.lcmp, 1) := by decide +kernel
theorem d_Model_down_10 : decode prog_7_method_17_code 10 = .ok (.ifCond .ge 10, 3) := by decide +kernel
theorem d_Model_down_13 : decode prog_7_method_17_code 13 = .ok (.lload 4, 2) := by decide +kernel
theorem d_Model_down_15 : decode prog_7_method_17_code 15 = .ok (.lconst 1, 1) := by decide +kernel
theorem d_Model_down_16 : decode prog_7_method_17_code 16 = .ok (.lsub, 1) := by decide +kernel
theorem d_Model_down_17 : decode prog_7_method_17_code 17 = .ok (.goto 5, 3) := by decide +kernel
theorem d_Model_down_20 : decode prog_7_method_17_code 20 = .ok (.lload 4, 2) := by decide +kernel
theorem d_Model_down_22 : decode prog_7_method_17_code 22 = .ok (.lreturn, 1) := by decide +kernel
theorem d_Model_up_0 : decode prog_7_method_18_code 0 = .ok (.lload_n 0, 1) := by decide +kernel
theorem d_Model_up_1 : decode prog_7_method_18_code 1 = .ok (.lload_n 2, 1) := by decide +kernel
theorem d_Model_up_2 : decode prog_7_method_18_code 2 = .ok (.ldiv, 1) := by decide +kernel
theorem d_Model_up_3 : decode prog_7_method_18_code 3 = .ok (.lstore 4, 2) := by decide +kernel
theorem d_Model_up_5 : decode prog_7_method_18_code 5 = .ok (.lload_n 0, 1) := by decide +kernel
theorem d_Model_up_6 : decode prog_7_method_18_code 6 = .ok (.lload_n 2, 1) := by decide +kernel
theorem d_Model_up_7 : decode prog_7_method_18_code 7 = .ok (.lrem, 1) := by decide +kernel
theorem d_Model_up_8 : decode prog_7_method_18_code 8 = .ok (.lconst 0, 1) := by decide +kernel
theorem d_Model_up_9 : decode prog_7_method_18_code 9 = .ok (.lcmp, 1) := by decide +kernel
theorem d_Model_up_10 : decode prog_7_method_18_code 10 = .ok (.ifCond .le 10, 3) := by decide +kernel
theorem d_Model_up_13 : decode prog_7_method_18_code 13 = .ok (.lload 4, 2) := by decide +kernel
theorem d_Model_up_15 : decode prog_7_method_18_code 15 = .ok (.lconst 1, 1) := by decide +kernel
theorem d_Model_up_16 : decode prog_7_method_18_code 16 = .ok (.ladd, 1) := by decide +kernel
theorem d_Model_up_17 : decode prog_7_method_18_code 17 = .ok (.goto 5, 3) := by decide +kernel
theorem d_Model_up_20 : decode prog_7_method_18_code 20 = .ok (.lload 4, 2) := by decide +kernel
theorem d_Model_up_22 : decode prog_7_method_18_code 22 = .ok (.lreturn, 1) := by decide +kernel
theorem d_Model_boundTick_0 : decode prog_7_method_19_code 0 = .ok (.iconst 0, 1) := by decide +kernel
theorem d_Model_boundTick_1 : decode prog_7_method_19_code 1 = .ok (.istore_n 3, 1) := by decide +kernel
theorem d_Model_boundTick_2 : decode prog_7_method_19_code 2 = .ok (.iconst 0, 1) := by decide +kernel
theorem d_Model_boundTick_3 : decode prog_7_method_19_code 3 = .ok (.istore 4, 2) := by decide +kernel
theorem d_Model_boundTick_5 : decode prog_7_method_19_code 5 = .ok (.iload 4, 2) := by decide +kernel
theorem d_Model_boundTick_7 : decode prog_7_method_19_code 7 = .ok (.bipush 6, 2) := by decide +kernel
theorem d_Model_boundTick_9 : decode prog_7_method_19_code 9 = .ok (.if_icmp .ge 195, 3) := by decide +kernel
theorem d_Model_boundTick_12 : decode prog_7_method_19_code 12 = .ok (.iload 4, 2) := by decide +kernel
theorem d_Model_boundTick_14 : decode prog_7_method_19_code 14 = .ok (.iconst 4, 1) := by decide +kernel
theorem d_Model_boundTick_15 : decode prog_7_method_19_code 15 = .ok (.if_icmp .ge 25, 3) := by decide +kernel
theorem d_Model_boundTick_18 : decode prog_7_method_19_code 18 = .ok (.aload_n 0, 1) := by decide +kernel
theorem d_Model_boundTick_19 : decode prog_7_method_19_code 19 = .ok (.getfield 31, 3) := by decide +kernel
theorem d_Model_boundTick_22 : decode prog_7_method_19_code 22 = .ok (.aload_n 2, 1) := by decide +kernel
theorem d_Model_boundTick_23 : decode prog_7_method_19_code 23 = .ok (.iload 4, 2) := by decide +kernel
theorem d_Model_boundTick_25 : decode prog_7_method_19_code 25 = .ok (.iaload, 1) := by decide +kernel
theorem d_Model_boundTick_26 : decode prog_7_method_19_code 26 = .ok (.iaload, 1) := by decide +kernel
theorem d_Model_boundTick_27 : decode prog_7_method_19_code 27 = .ok (.i2l, 1) := by decide +kernel
theorem d_Model_boundTick_28 : decode prog_7_method_19_code 28 = .ok (.aload_n 0, 1) := by decide +kernel
theorem d_Model_boundTick_29 : decode prog_7_method_19_code 29 = .ok (.aload_n 1, 1) := by decide +kernel
theorem d_Model_boundTick_30 : decode prog_7_method_19_code 30 = .ok (.iload 4, 2) := by decide +kernel
theorem d_Model_boundTick_32 : decode prog_7_method_19_code 32 = .ok (.laload, 1) := by decide +kernel
theorem d_Model_boundTick_33 : decode prog_7_method_19_code 33 = .ok (.invokevirtual 131, 3) := by decide +kernel
theorem d_Model_boundTick_36 : decode prog_7_method_19_code 36 = .ok (.ladd, 1) := by decide +kernel
theorem d_Model_boundTick_37 : decode prog_7_method_19_code 37 = .ok (.goto 4, 3) := by decide +kernel
