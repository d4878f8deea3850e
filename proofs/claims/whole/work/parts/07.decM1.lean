theorem d_M_init_0 : decode prog_7_method_1_code 0 = .ok (.aload_n 0, 1) := by decide +kernel
theorem d_M_init_1 : decode prog_7_method_1_code 1 = .ok (.invokespecial 1, 3) := by decide +kernel
theorem d_M_init_4 : decode prog_7_method_1_code 4 = .ok (.aload_n 0, 1) := by decide +kernel
theorem d_M_init_5 : decode prog_7_method_1_code 5 = .ok (.bipush (10), 2) := by decide +kernel
theorem d_M_init_7 : decode prog_7_method_1_code 7 = .ok (.newarray .int, 2) := by decide +kernel
theorem d_M_init_9 : decode prog_7_method_1_code 9 = .ok (.putfield 7, 3) := by decide +kernel
theorem d_M_init_12 : decode prog_7_method_1_code 12 = .ok (.aload_n 0, 1) := by decide +kernel
theorem d_M_init_13 : decode prog_7_method_1_code 13 = .ok (.bipush (10), 2) := by decide +kernel
theorem d_M_init_15 : decode prog_7_method_1_code 15 = .ok (.newarray .int, 2) := by decide +kernel
theorem d_M_init_17 : decode prog_7_method_1_code 17 = .ok (.putfield 13, 3) := by decide +kernel
theorem d_M_init_20 : decode prog_7_method_1_code 20 = .ok (.aload_n 0, 1) := by decide +kernel
theorem d_M_init_21 : decode prog_7_method_1_code 21 = .ok (.bipush (20), 2) := by decide +kernel
theorem d_M_init_23 : decode prog_7_method_1_code 23 = .ok (.newarray .int, 2) := by decide +kernel
theorem d_M_init_25 : decode prog_7_method_1_code 25 = .ok (.putfield 16, 3) := by decide +kernel
theorem d_M_init_28 : decode prog_7_method_1_code 28 = .ok (.aload_n 0, 1) := by decide +kernel
theorem d_M_init_29 : decode prog_7_method_1_code 29 = .ok (.bipush (20), 2) := by decide +kernel
theorem d_M_init_31 : decode prog_7_method_1_code 31 = .ok (.newarray .int, 2) := by decide +kernel
theorem d_M_init_33 : decode prog_7_method_1_code 33 = .ok (.putfield 19, 3) := by decide +kernel
theorem d_M_init_36 : decode prog_7_method_1_code 36 = .ok (.aload_n 0, 1) := by decide +kernel
theorem d_M_init_37 : decode prog_7_method_1_code 37 = .ok (.bipush (20), 2) := by decide +kernel
theorem d_M_init_39 : decode prog_7_method_1_code 39 = .ok (.newarray .int, 2) := by decide +kernel
theorem d_M_init_41 : decode prog_7_method_1_code 41 = .ok (.putfield 22, 3) := by decide +kernel
theorem d_M_init_44 : decode prog_7_method_1_code 44 = .ok (.aload_n 0, 1) := by decide +kernel
theorem d_M_init_45 : decode prog_7_method_1_code 45 = .ok (.bipush (20), 2) := by decide +kernel
theorem d_M_init_47 : decode prog_7_method_1_code 47 = .ok (.newarray .int, 2) := by decide +kernel
theorem d_M_init_49 : decode prog_7_method_1_code 49 = .ok (.putfield 25, 3) := by decide +kernel
theorem d_M_init_52 : decode prog_7_method_1_code 52 = .ok (.aload_n 0, 1) := by decide +kernel
theorem d_M_init_53 : decode prog_7_method_1_code 53 = .ok (.bipush (20), 2) := by decide +kernel
theorem d_M_init_55 : decode prog_7_method_1_code 55 = .ok (.newarray .int, 2) := by decide +kernel
theorem d_M_init_57 : decode prog_7_method_1_code 57 = .ok (.putfield 28, 3) := by decide +kernel
theorem d_M_init_60 : decode prog_7_method_1_code 60 = .ok (.aload_n 0, 1) := by decide +kernel
theorem d_M_init_61 : decode prog_7_method_1_code 61 = .ok (.iconst 4, 1) := by decide +kernel
theorem d_M_init_62 : decode prog_7_method_1_code 62 = .ok (.newarray .int, 2) := by decide +kernel
theorem d_M_init_64 : decode prog_7_method_1_code 64 = .ok (.putfield 31, 3) := by decide +kernel
theorem d_M_init_67 : decode prog_7_method_1_code 67 = .ok (.aload_n 0, 1) := by decide +kernel
theorem d_M_init_68 : decode prog_7_method_1_code 68 = .ok (.iconst 4, 1) := by decide +kernel
theorem d_M_init_69 : decode prog_7_method_1_code 69 = .ok (.newarray .int, 2) := by decide +kernel
theorem d_M_init_71 : decode prog_7_method_1_code 71 = .ok (.putfield 34, 3) := by decide +kernel
theorem d_M_init_74 : decode prog_7_method_1_code 74 = .ok (.aload_n 0, 1) := by decide +kernel
theorem d_M_init_75 : decode prog_7_method_1_code 75 = .ok (.iconst 4, 1) := by decide +kernel
theorem d_M_init_76 : decode prog_7_method_1_code 76 = .ok (.newarray .int, 2) := by decide +kernel
theorem d_M_init_78 : decode prog_7_method_1_code 78 = .ok (.putfield 37, 3) := by decide +kernel
theorem d_M_init_81 : decode prog_7_method_1_code 81 = .ok (.aload_n 0, 1) := by decide +kernel
theorem d_M_init_82 : decode prog_7_method_1_code 82 = .ok (.iconst 4, 1) := by decide +kernel
theorem d_M_init_83 : decode prog_7_method_1_code 83 = .ok (.newarray .int, 2) := by decide +kernel
theorem d_M_init_85 : decode prog_7_method_1_code 85 = .ok (.putfield 40, 3) := by decide +kernel
theorem d_M_init_88 : decode prog_7_method_1_code 88 = .ok (.aload_n 0, 1) := by decide +kernel
theorem d_M_init_89 : decode prog_7_method_1_code 89 = .ok (.sipush (1000), 3) := by decide +kernel
theorem d_M_init_92 : decode prog_7_method_1_code 92 = .ok (.newarray .int, 2) := by decide +kernel
theorem d_M_init_94 : decode prog_7_method_1_code 94 = .ok (.putfield 43, 3) := by decide +kernel
theorem d_M_init_97 : decode prog_7_method_1_code 97 = .ok (.aload_n 0, 1) := by decide +kernel
theorem d_M_init_98 : decode prog_7_method_1_code 98 = .ok (.sipush (20040), 3) := by decide +kernel
theorem d_M_init_101 : decode prog_7_method_1_code 101 = .ok (.newarray .int, 2) := by decide +kernel
theorem d_M_init_103 : decode prog_7_method_1_code 103 = .ok (.putfield 46, 3) := by decide +kernel
theorem d_M_init_106 : decode prog_7_method_1_code 106 = .ok (.aload_n 0, 1) := by decide +kernel
theorem d_M_init_107 : decode prog_7_method_1_code 107 = .ok (.ldc 49, 2) := by decide +kernel
theorem d_M_init_109 : decode prog_7_method_1_code 109 = .ok (.newarray .int, 2) := by decide +kernel
theorem d_M_init_111 : decode prog_7_method_1_code 111 = .ok (.putfield 50, 3) := by decide +kernel
theorem d_M_init_114 : decode prog_7_method_1_code 114 = .ok (.aload_n 0, 1) := by decide +kernel
theorem d_M_init_115 : decode prog_7_method_1_code 115 = .ok (.bipush (80), 2) := by decide +kernel
theorem d_M_init_117 : decode prog_7_method_1_code 117 = .ok (.newarray .int, 2) := by decide +kernel
theorem d_M_init_119 : decode prog_7_method_1_code 119 = .ok (.putfield 53, 3) := by decide +kernel
theorem d_M_init_122 : decode prog_7_method_1_code 122 = .ok (.aload_n 0, 1) := by decide +kernel
theorem d_M_init_123 : decode prog_7_method_1_code 123 = .ok (.sipush (20040), 3) := by decide +kernel
theorem d_M_init_126 : decode prog_7_method_1_code 126 = .ok (.newarray .int, 2) := by decide +kernel
theorem d_M_init_128 : decode prog_7_method_1_code 128 = .ok (.putfield 56, 3) := by decide +kernel
theorem d_M_init_131 : decode prog_7_method_1_code 131 = .ok (.aload_n 0, 1) := by decide +kernel
theorem d_M_init_132 : decode prog_7_method_1_code 132 = .ok (.bipush (20), 2) := by decide +kernel
theorem d_M_init_134 : decode prog_7_method_1_code 134 = .ok (.newarray .int, 2) := by decide +kernel
theorem d_M_init_136 : decode prog_7_method_1_code 136 = .ok (.putfield 59, 3) := by decide +kernel
theorem d_M_init_139 : decode prog_7_method_1_code 139 = .ok (.aload_n 0, 1) := by decide +kernel
theorem d_M_init_140 : decode prog_7_method_1_code 140 = .ok (.sipush (10020), 3) := by decide +kernel
theorem d_M_init_143 : decode prog_7_method_1_code 143 = .ok (.newarray .int, 2) := by decide +kernel
theorem d_M_init_145 : decode prog_7_method_1_code 145 = .ok (.putfield 62, 3) := by decide +kernel
theorem d_M_init_148 : decode prog_7_method_1_code 148 = .ok (.aload_n 0, 1) := by decide +kernel
theorem d_M_init_149 : decode prog_7_method_1_code 149 = .ok (.bipush (10), 2) := by decide +kernel
theorem d_M_init_151 : decode prog_7_method_1_code 151 = .ok (.newarray .int, 2) := by decide +kernel
theorem d_M_init_153 : decode prog_7_method_1_code 153 = .ok (.putfield 65, 3) := by decide +kernel
theorem d_M_init_156 : decode prog_7_method_1_code 156 = .ok (.aload_n 0, 1) := by decide +kernel
theorem d_M_init_157 : decode prog_7_method_1_code 157 = .ok (.sipush (4008), 3) := by decide +kernel
theorem d_M_init_160 : decode prog_7_method_1_code 160 = .ok (.newarray .int, 2) := by decide +kernel
theorem d_M_init_162 : decode prog_7_method_1_code 162 = .ok (.putfield 68, 3) := by decide +kernel
theorem d_M_init_165 : decode prog_7_method_1_code 165 = .ok (.aload_n 0, 1) := by decide +kernel
theorem d_M_init_166 : decode prog_7_method_1_code 166 = .ok (.sipush (4008), 3) := by decide +kernel
theorem d_M_init_169 : decode prog_7_method_1_code 169 = .ok (.newarray .int, 2) := by decide +kernel
theorem d_M_init_171 : decode prog_7_method_1_code 171 = .ok (.putfield 71, 3) := by decide +kernel
theorem d_M_init_174 : decode prog_7_method_1_code 174 = .ok (.aload_n 0, 1) := by decide +kernel
theorem d_M_init_175 : decode prog_7_method_1_code 175 = .ok (.iconst 4, 1) := by decide +kernel
theorem d_M_init_176 : decode prog_7_method_1_code 176 = .ok (.newarray .int, 2) := by decide +kernel
theorem d_M_init_178 : decode prog_7_method_1_code 178 = .ok (.putfield 74, 3) := by decide +kernel
theorem d_M_init_181 : decode prog_7_method_1_code 181 = .ok (.aload_n 0, 1) := by decide +kernel
theorem d_M_init_182 : decode prog_7_method_1_code 182 = .ok (.sipush (4008), 3) := by decide +kernel
theorem d_M_init_185 : decode prog_7_method_1_code 185 = .ok (.newarray .int, 2) := by decide +kernel
theorem d_M_init_187 : decode prog_7_method_1_code 187 = .ok (.putfield 77, 3) := by decide +kernel
theorem d_M_init_190 : decode prog_7_method_1_code 190 = .ok (.aload_n 0, 1) := by decide +kernel
theorem d_M_init_191 : decode prog_7_method_1_code 191 = .ok (.sipush (4008), 3) := by decide +kernel
theorem d_M_init_194 : decode prog_7_method_1_code 194 = .ok (.newarray .int, 2) := by decide +kernel
theorem d_M_init_196 : decode prog_7_method_1_code 196 = .ok (.putfield 80, 3) := by decide +kernel
theorem d_M_init_199 : decode prog_7_method_1_code 199 = .ok (.aload_n 0, 1) := by decide +kernel
theorem d_M_init_200 : decode prog_7_method_1_code 200 = .ok (.iconst 4, 1) := by decide +kernel
theorem d_M_init_201 : decode prog_7_method_1_code 201 = .ok (.newarray .int, 2) := by decide +kernel
theorem d_M_init_203 : decode prog_7_method_1_code 203 = .ok (.putfield 83, 3) := by decide +kernel
theorem d_M_init_206 : decode prog_7_method_1_code 206 = .ok (.aload_n 0, 1) := by decide +kernel
theorem d_M_init_207 : decode prog_7_method_1_code 207 = .ok (.bipush (20), 2) := by decide +kernel
theorem d_M_init_209 : decode prog_7_method_1_code 209 = .ok (.newarray .int, 2) := by decide +kernel
theorem d_M_init_211 : decode prog_7_method_1_code 211 = .ok (.putfield 86, 3) := by decide +kernel
theorem d_M_init_214 : decode prog_7_method_1_code 214 = .ok (.aload_n 0, 1) := by decide +kernel
theorem d_M_init_215 : decode prog_7_method_1_code 215 = .ok (.bipush (10), 2) := by decide +kernel
theorem d_M_init_217 : decode prog_7_method_1_code 217 = .ok (.newarray .int, 2) := by decide +kernel
theorem d_M_init_219 : decode prog_7_method_1_code 219 = .ok (.putfield 89, 3) := by decide +kernel
theorem d_M_init_222 : decode prog_7_method_1_code 222 = .ok (.aload_n 0, 1) := by decide +kernel
theorem d_M_init_223 : decode prog_7_method_1_code 223 = .ok (.sipush (400), 3) := by decide +kernel
theorem d_M_init_226 : decode prog_7_method_1_code 226 = .ok (.newarray .int, 2) := by decide +kernel
theorem d_M_init_228 : decode prog_7_method_1_code 228 = .ok (.putfield 92, 3) := by decide +kernel
theorem d_M_init_231 : decode prog_7_method_1_code 231 = .ok (.aload_n 0, 1) := by decide +kernel
theorem d_M_init_232 : decode prog_7_method_1_code 232 = .ok (.sipush (400), 3) := by decide +kernel
theorem d_M_init_235 : decode prog_7_method_1_code 235 = .ok (.newarray .int, 2) := by decide +kernel
theorem d_M_init_237 : decode prog_7_method_1_code 237 = .ok (.putfield 95, 3) := by decide +kernel
theorem d_M_init_240 : decode prog_7_method_1_code 240 = .ok (.aload_n 0, 1) := by decide +kernel
theorem d_M_init_241 : decode prog_7_method_1_code 241 = .ok (.sipush (400), 3) := by decide +kernel
theorem d_M_init_244 : decode prog_7_method_1_code 244 = .ok (.newarray .int, 2) := by decide +kernel
theorem d_M_init_246 : decode prog_7_method_1_code 246 = .ok (.putfield 98, 3) := by decide +kernel
theorem d_M_init_249 : decode prog_7_method_1_code 249 = .ok (.aload_n 0, 1) := by decide +kernel
theorem d_M_init_250 : decode prog_7_method_1_code 250 = .ok (.sipush (400), 3) := by decide +kernel
theorem d_M_init_253 : decode prog_7_method_1_code 253 = .ok (.newarray .int, 2) := by decide +kernel
theorem d_M_init_255 : decode prog_7_method_1_code 255 = .ok (.putfield 101, 3) := by decide +kernel
theorem d_M_init_258 : decode prog_7_method_1_code 258 = .ok (.aload_n 0, 1) := by decide +kernel
theorem d_M_init_259 : decode prog_7_method_1_code 259 = .ok (.bipush (120), 2) := by decide +kernel
theorem d_M_init_261 : decode prog_7_method_1_code 261 = .ok (.newarray .int, 2) := by decide +kernel
theorem d_M_init_263 : decode prog_7_method_1_code 263 = .ok (.putfield 104, 3) := by decide +kernel
theorem d_M_init_266 : decode prog_7_method_1_code 266 = .ok (.aload_n 0, 1) := by decide +kernel
theorem d_M_init_267 : decode prog_7_method_1_code 267 = .ok (.bipush (120), 2) := by decide +kernel
theorem d_M_init_269 : decode prog_7_method_1_code 269 = .ok (.newarray .int, 2) := by decide +kernel
theorem d_M_init_271 : decode prog_7_method_1_code 271 = .ok (.putfield 107, 3) := by decide +kernel
theorem d_M_init_274 : decode prog_7_method_1_code 274 = .ok (.return_, 1) := by decide +kernel
theorem d_M_thrown_0 : decode prog_7_method_2_code 0 = .ok (.aload_n 0, 1) := by decide +kernel
theorem d_M_thrown_1 : decode prog_7_method_2_code 1 = .ok (.getfield 110, 3) := by decide +kernel
theorem d_M_thrown_4 : decode prog_7_method_2_code 4 = .ok (.ireturn, 1) := by decide +kernel
theorem d_M_noBlock_0 : decode prog_7_method_3_code 0 = .ok (.iload_n 1, 1) := by decide +kernel
theorem d_M_noBlock_1 : decode prog_7_method_3_code 1 = .ok (.ifCond .lt (11), 3) := by decide +kernel
theorem d_M_noBlock_4 : decode prog_7_method_3_code 4 = .ok (.iload_n 1, 1) := by decide +kernel
theorem d_M_noBlock_5 : decode prog_7_method_3_code 5 = .ok (.aload_n 0, 1) := by decide +kernel
theorem d_M_noBlock_6 : decode prog_7_method_3_code 6 = .ok (.getfield 114, 3) := by decide +kernel
theorem d_M_noBlock_9 : decode prog_7_method_3_code 9 = .ok (.if_icmp .lt (7), 3) := by decide +kernel
theorem d_M_noBlock_12 : decode prog_7_method_3_code 12 = .ok (.iconst 1, 1) := by decide +kernel
theorem d_M_noBlock_13 : decode prog_7_method_3_code 13 = .ok (.goto (4), 3) := by decide +kernel
theorem d_M_noBlock_16 : decode prog_7_method_3_code 16 = .ok (.iconst 0, 1) := by decide +kernel
theorem d_M_noBlock_17 : decode prog_7_method_3_code 17 = .ok (.ireturn, 1) := by decide +kernel
theorem d_M_block_0 : decode prog_7_method_4_code 0 = .ok (.aload_n 0, 1) := by decide +kernel
theorem d_M_block_1 : decode prog_7_method_4_code 1 = .ok (.aload_n 0, 1) := by decide +kernel
theorem d_M_block_2 : decode prog_7_method_4_code 2 = .ok (.getfield 117, 3) := by decide +kernel
theorem d_M_block_5 : decode prog_7_method_4_code 5 = .ok (.ifCond .eq (7), 3) := by decide +kernel
theorem d_M_block_8 : decode prog_7_method_4_code 8 = .ok (.iconst 1, 1) := by decide +kernel
theorem d_M_block_9 : decode prog_7_method_4_code 9 = .ok (.goto (17), 3) := by decide +kernel
theorem d_M_block_12 : decode prog_7_method_4_code 12 = .ok (.iload_n 1, 1) := by decide +kernel
theorem d_M_block_13 : decode prog_7_method_4_code 13 = .ok (.ifCond .lt (8), 3) := by decide +kernel
theorem d_M_block_16 : decode prog_7_method_4_code 16 = .ok (.iload_n 1, 1) := by decide +kernel
theorem d_M_block_17 : decode prog_7_method_4_code 17 = .ok (.iconst 4, 1) := by decide +kernel
theorem d_M_block_18 : decode prog_7_method_4_code 18 = .ok (.if_icmp .le (7), 3) := by decide +kernel
theorem d_M_block_21 : decode prog_7_method_4_code 21 = .ok (.iconst 2, 1) := by decide +kernel
theorem d_M_block_22 : decode prog_7_method_4_code 22 = .ok (.goto (4), 3) := by decide +kernel
theorem d_M_block_25 : decode prog_7_method_4_code 25 = .ok (.iconst 0, 1) := by decide +kernel
theorem d_M_block_26 : decode prog_7_method_4_code 26 = .ok (.putfield 110, 3) := by decide +kernel
theorem d_M_block_29 : decode prog_7_method_4_code 29 = .ok (.aload_n 0, 1) := by decide +kernel
theorem d_M_block_30 : decode prog_7_method_4_code 30 = .ok (.getfield 110, 3) := by decide +kernel
theorem d_M_block_33 : decode prog_7_method_4_code 33 = .ok (.ifCond .le (5), 3) := by decide +kernel
theorem d_M_block_36 : decode prog_7_method_4_code 36 = .ok (.iconst 0, 1) := by decide +kernel
theorem d_M_block_37 : decode prog_7_method_4_code 37 = .ok (.ireturn, 1) := by decide +kernel
theorem d_M_block_38 : decode prog_7_method_4_code 38 = .ok (.aload_n 0, 1) := by decide +kernel
theorem d_M_block_39 : decode prog_7_method_4_code 39 = .ok (.getfield 114, 3) := by decide +kernel
theorem d_M_block_42 : decode prog_7_method_4_code 42 = .ok (.bipush (10), 2) := by decide +kernel
theorem d_M_block_44 : decode prog_7_method_4_code 44 = .ok (.if_icmp .ne (5), 3) := by decide +kernel
theorem d_M_block_47 : decode prog_7_method_4_code 47 = .ok (.iconst (-1), 1) := by decide +kernel
theorem d_M_block_48 : decode prog_7_method_4_code 48 = .ok (.ireturn, 1) := by decide +kernel
theorem d_M_block_49 : decode prog_7_method_4_code 49 = .ok (.aload_n 0, 1) := by decide +kernel
theorem d_M_block_50 : decode prog_7_method_4_code 50 = .ok (.getfield 7, 3) := by decide +kernel
theorem d_M_block_53 : decode prog_7_method_4_code 53 = .ok (.aload_n 0, 1) := by decide +kernel
theorem d_M_block_54 : decode prog_7_method_4_code 54 = .ok (.getfield 114, 3) := by decide +kernel
theorem d_M_block_57 : decode prog_7_method_4_code 57 = .ok (.iload_n 1, 1) := by decide +kernel
theorem d_M_block_58 : decode prog_7_method_4_code 58 = .ok (.iastore, 1) := by decide +kernel
theorem d_M_block_59 : decode prog_7_method_4_code 59 = .ok (.aload_n 0, 1) := by decide +kernel
theorem d_M_block_60 : decode prog_7_method_4_code 60 = .ok (.getfield 13, 3) := by decide +kernel
theorem d_M_block_63 : decode prog_7_method_4_code 63 = .ok (.aload_n 0, 1) := by decide +kernel
theorem d_M_block_64 : decode prog_7_method_4_code 64 = .ok (.getfield 114, 3) := by decide +kernel
theorem d_M_block_67 : decode prog_7_method_4_code 67 = .ok (.iload_n 2, 1) := by decide +kernel
theorem d_M_block_68 : decode prog_7_method_4_code 68 = .ok (.iastore, 1) := by decide +kernel
theorem d_M_block_69 : decode prog_7_method_4_code 69 = .ok (.aload_n 0, 1) := by decide +kernel
theorem d_M_block_70 : decode prog_7_method_4_code 70 = .ok (.dup, 1) := by decide +kernel
theorem d_M_block_71 : decode prog_7_method_4_code 71 = .ok (.getfield 114, 3) := by decide +kernel
theorem d_M_block_74 : decode prog_7_method_4_code 74 = .ok (.iconst 1, 1) := by decide +kernel
theorem d_M_block_75 : decode prog_7_method_4_code 75 = .ok (.iadd, 1) := by decide +kernel
theorem d_M_block_76 : decode prog_7_method_4_code 76 = .ok (.putfield 114, 3) := by decide +kernel
theorem d_M_block_79 : decode prog_7_method_4_code 79 = .ok (.aload_n 0, 1) := by decide +kernel
theorem d_M_block_80 : decode prog_7_method_4_code 80 = .ok (.getfield 114, 3) := by decide +kernel
theorem d_M_block_83 : decode prog_7_method_4_code 83 = .ok (.iconst 1, 1) := by decide +kernel
theorem d_M_block_84 : decode prog_7_method_4_code 84 = .ok (.isub, 1) := by decide +kernel
theorem d_M_block_85 : decode prog_7_method_4_code 85 = .ok (.ireturn, 1) := by decide +kernel
theorem d_M_channel_0 : decode prog_7_method_5_code 0 = .ok (.aload_n 0, 1) := by decide +kernel
theorem d_M_channel_1 : decode prog_7_method_5_code 1 = .ok (.aload_n 0, 1) := by decide +kernel
theorem d_M_channel_2 : decode prog_7_method_5_code 2 = .ok (.getfield 117, 3) := by decide +kernel
theorem d_M_channel_5 : decode prog_7_method_5_code 5 = .ok (.ifCond .eq (7), 3) := by decide +kernel
theorem d_M_channel_8 : decode prog_7_method_5_code 8 = .ok (.iconst 1, 1) := by decide +kernel
theorem d_M_channel_9 : decode prog_7_method_5_code 9 = .ok (.goto (24), 3) := by decide +kernel
theorem d_M_channel_12 : decode prog_7_method_5_code 12 = .ok (.aload_n 0, 1) := by decide +kernel
theorem d_M_channel_13 : decode prog_7_method_5_code 13 = .ok (.iload_n 1, 1) := by decide +kernel
theorem d_M_channel_14 : decode prog_7_method_5_code 14 = .ok (.invokevirtual 121, 3) := by decide +kernel
theorem d_M_channel_17 : decode prog_7_method_5_code 17 = .ok (.ifCond .ne (11), 3) := by decide +kernel
theorem d_M_channel_20 : decode prog_7_method_5_code 20 = .ok (.aload_n 0, 1) := by decide +kernel
theorem d_M_channel_21 : decode prog_7_method_5_code 21 = .ok (.iload_n 2, 1) := by decide +kernel
theorem d_M_channel_22 : decode prog_7_method_5_code 22 = .ok (.invokevirtual 121, 3) := by decide +kernel
theorem d_M_channel_25 : decode prog_7_method_5_code 25 = .ok (.ifCond .eq (7), 3) := by decide +kernel
theorem d_M_channel_28 : decode prog_7_method_5_code 28 = .ok (.iconst 2, 1) := by decide +kernel
theorem d_M_channel_29 : decode prog_7_method_5_code 29 = .ok (.goto (4), 3) := by decide +kernel
theorem d_M_channel_32 : decode prog_7_method_5_code 32 = .ok (.iconst 0, 1) := by decide +kernel
theorem d_M_channel_33 : decode prog_7_method_5_code 33 = .ok (.putfield 110, 3) := by decide +kernel
theorem d_M_channel_36 : decode prog_7_method_5_code 36 = .ok (.aload_n 0, 1) := by decide +kernel
theorem d_M_channel_37 : decode prog_7_method_5_code 37 = .ok (.getfield 110, 3) := by decide +kernel
theorem d_M_channel_40 : decode prog_7_method_5_code 40 = .ok (.ifCond .le (5), 3) := by decide +kernel
theorem d_M_channel_43 : decode prog_7_method_5_code 43 = .ok (.iconst 0, 1) := by decide +kernel
theorem d_M_channel_44 : decode prog_7_method_5_code 44 = .ok (.ireturn, 1) := by decide +kernel
theorem d_M_channel_45 : decode prog_7_method_5_code 45 = .ok (.aload_n 0, 1) := by decide +kernel
theorem d_M_channel_46 : decode prog_7_method_5_code 46 = .ok (.getfield 125, 3) := by decide +kernel
theorem d_M_channel_49 : decode prog_7_method_5_code 49 = .ok (.bipush (20), 2) := by decide +kernel
theorem d_M_channel_51 : decode prog_7_method_5_code 51 = .ok (.if_icmp .ne (5), 3) := by decide +kernel
theorem d_M_channel_54 : decode prog_7_method_5_code 54 = .ok (.iconst (-1), 1) := by decide +kernel
theorem d_M_channel_55 : decode prog_7_method_5_code 55 = .ok (.ireturn, 1) := by decide +kernel
theorem d_M_channel_56 : decode prog_7_method_5_code 56 = .ok (.aload_n 0, 1) := by decide +kernel
theorem d_M_channel_57 : decode prog_7_method_5_code 57 = .ok (.getfield 16, 3) := by decide +kernel
theorem d_M_channel_60 : decode prog_7_method_5_code 60 = .ok (.aload_n 0, 1) := by decide +kernel
theorem d_M_channel_61 : decode prog_7_method_5_code 61 = .ok (.getfield 125, 3) := by decide +kernel
theorem d_M_channel_64 : decode prog_7_method_5_code 64 = .ok (.iload_n 1, 1) := by decide +kernel
theorem d_M_channel_65 : decode prog_7_method_5_code 65 = .ok (.iastore, 1) := by decide +kernel
theorem d_M_channel_66 : decode prog_7_method_5_code 66 = .ok (.aload_n 0, 1) := by decide +kernel
theorem d_M_channel_67 : decode prog_7_method_5_code 67 = .ok (.getfield 19, 3) := by decide +kernel
theorem d_M_channel_70 : decode prog_7_method_5_code 70 = .ok (.aload_n 0, 1) := by decide +kernel
theorem d_M_channel_71 : decode prog_7_method_5_code 71 = .ok (.getfield 125, 3) := by decide +kernel
theorem d_M_channel_74 : decode prog_7_method_5_code 74 = .ok (.iload_n 2, 1) := by decide +kernel
theorem d_M_channel_75 : decode prog_7_method_5_code 75 = .ok (.iastore, 1) := by decide +kernel
theorem d_M_channel_76 : decode prog_7_method_5_code 76 = .ok (.aload_n 0, 1) := by decide +kernel
theorem d_M_channel_77 : decode prog_7_method_5_code 77 = .ok (.getfield 22, 3) := by decide +kernel
theorem d_M_channel_80 : decode prog_7_method_5_code 80 = .ok (.aload_n 0, 1) := by decide +kernel
theorem d_M_channel_81 : decode prog_7_method_5_code 81 = .ok (.getfield 125, 3) := by decide +kernel
theorem d_M_channel_84 : decode prog_7_method_5_code 84 = .ok (.iload_n 3, 1) := by decide +kernel
theorem d_M_channel_85 : decode prog_7_method_5_code 85 = .ok (.iastore, 1) := by decide +kernel
theorem d_M_channel_86 : decode prog_7_method_5_code 86 = .ok (.aload_n 0, 1) := by decide +kernel
theorem d_M_channel_87 : decode prog_7_method_5_code 87 = .ok (.getfield 25, 3) := by decide +kernel
theorem d_M_channel_90 : decode prog_7_method_5_code 90 = .ok (.aload_n 0, 1) := by decide +kernel
theorem d_M_channel_91 : decode prog_7_method_5_code 91 = .ok (.getfield 125, 3) := by decide +kernel
theorem d_M_channel_94 : decode prog_7_method_5_code 94 = .ok (.iconst 0, 1) := by decide +kernel
theorem d_M_channel_95 : decode prog_7_method_5_code 95 = .ok (.iastore, 1) := by decide +kernel
theorem d_M_channel_96 : decode prog_7_method_5_code 96 = .ok (.aload_n 0, 1) := by decide +kernel
theorem d_M_channel_97 : decode prog_7_method_5_code 97 = .ok (.getfield 28, 3) := by decide +kernel
theorem d_M_channel_100 : decode prog_7_method_5_code 100 = .ok (.aload_n 0, 1) := by decide +kernel
theorem d_M_channel_101 : decode prog_7_method_5_code 101 = .ok (.getfield 125, 3) := by decide +kernel
theorem d_M_channel_104 : decode prog_7_method_5_code 104 = .ok (.aload_n 0, 1) := by decide +kernel
theorem d_M_channel_105 : decode prog_7_method_5_code 105 = .ok (.getfield 128, 3) := by decide +kernel
theorem d_M_channel_108 : decode prog_7_method_5_code 108 = .ok (.iastore, 1) := by decide +kernel
theorem d_M_channel_109 : decode prog_7_method_5_code 109 = .ok (.aload_n 0, 1) := by decide +kernel
theorem d_M_channel_110 : decode prog_7_method_5_code 110 = .ok (.dup, 1) := by decide +kernel
theorem d_M_channel_111 : decode prog_7_method_5_code 111 = .ok (.getfield 128, 3) := by decide +kernel
theorem d_M_channel_114 : decode prog_7_method_5_code 114 = .ok (.iconst 1, 1) := by decide +kernel
theorem d_M_channel_115 : decode prog_7_method_5_code 115 = .ok (.iadd, 1) := by decide +kernel
theorem d_M_channel_116 : decode prog_7_method_5_code 116 = .ok (.putfield 128, 3) := by decide +kernel
theorem d_M_channel_119 : decode prog_7_method_5_code 119 = .ok (.aload_n 0, 1) := by decide +kernel
theorem d_M_channel_120 : decode prog_7_method_5_code 120 = .ok (.dup, 1) := by decide +kernel
theorem d_M_channel_121 : decode prog_7_method_5_code 121 = .ok (.getfield 125, 3) := by decide +kernel
theorem d_M_channel_124 : decode prog_7_method_5_code 124 = .ok (.iconst 1, 1) := by decide +kernel
theorem d_M_channel_125 : decode prog_7_method_5_code 125 = .ok (.iadd, 1) := by decide +kernel
theorem d_M_channel_126 : decode prog_7_method_5_code 126 = .ok (.putfield 125, 3) := by decide +kernel
theorem d_M_channel_129 : decode prog_7_method_5_code 129 = .ok (.aload_n 0, 1) := by decide +kernel
theorem d_M_channel_130 : decode prog_7_method_5_code 130 = .ok (.getfield 125, 3) := by decide +kernel
theorem d_M_channel_133 : decode prog_7_method_5_code 133 = .ok (.iconst 1, 1) := by decide +kernel
theorem d_M_channel_134 : decode prog_7_method_5_code 134 = .ok (.isub, 1) := by decide +kernel
theorem d_M_channel_135 : decode prog_7_method_5_code 135 = .ok (.ireturn, 1) := by decide +kernel
theorem d_M_input_0 : decode prog_7_method_6_code 0 = .ok (.aload_n 0, 1) := by decide +kernel
theorem d_M_input_1 : decode prog_7_method_6_code 1 = .ok (.aload_n 0, 1) := by decide +kernel
theorem d_M_input_2 : decode prog_7_method_6_code 2 = .ok (.getfield 117, 3) := by decide +kernel
theorem d_M_input_5 : decode prog_7_method_6_code 5 = .ok (.ifCond .eq (7), 3) := by decide +kernel
theorem d_M_input_8 : decode prog_7_method_6_code 8 = .ok (.iconst 1, 1) := by decide +kernel
theorem d_M_input_9 : decode prog_7_method_6_code 9 = .ok (.goto (16), 3) := by decide +kernel
theorem d_M_input_12 : decode prog_7_method_6_code 12 = .ok (.aload_n 0, 1) := by decide +kernel
theorem d_M_input_13 : decode prog_7_method_6_code 13 = .ok (.iload_n 1, 1) := by decide +kernel
theorem d_M_input_14 : decode prog_7_method_6_code 14 = .ok (.invokevirtual 121, 3) := by decide +kernel
theorem d_M_input_17 : decode prog_7_method_6_code 17 = .ok (.ifCond .eq (7), 3) := by decide +kernel
theorem d_M_input_20 : decode prog_7_method_6_code 20 = .ok (.iconst 2, 1) := by decide +kernel
theorem d_M_input_21 : decode prog_7_method_6_code 21 = .ok (.goto (4), 3) := by decide +kernel
theorem d_M_input_24 : decode prog_7_method_6_code 24 = .ok (.iconst 0, 1) := by decide +kernel
theorem d_M_input_25 : decode prog_7_method_6_code 25 = .ok (.putfield 110, 3) := by decide +kernel
theorem d_M_input_28 : decode prog_7_method_6_code 28 = .ok (.aload_n 0, 1) := by decide +kernel
theorem d_M_input_29 : decode prog_7_method_6_code 29 = .ok (.getfield 110, 3) := by decide +kernel
theorem d_M_input_32 : decode prog_7_method_6_code 32 = .ok (.ifCond .le (5), 3) := by decide +kernel
theorem d_M_input_35 : decode prog_7_method_6_code 35 = .ok (.iconst 0, 1) := by decide +kernel
theorem d_M_input_36 : decode prog_7_method_6_code 36 = .ok (.ireturn, 1) := by decide +kernel
theorem d_M_input_37 : decode prog_7_method_6_code 37 = .ok (.aload_n 0, 1) := by decide +kernel
theorem d_M_input_38 : decode prog_7_method_6_code 38 = .ok (.getfield 131, 3) := by decide +kernel
theorem d_M_input_41 : decode prog_7_method_6_code 41 = .ok (.iconst 4, 1) := by decide +kernel
theorem d_M_input_42 : decode prog_7_method_6_code 42 = .ok (.if_icmp .ne (5), 3) := by decide +kernel
theorem d_M_input_45 : decode prog_7_method_6_code 45 = .ok (.iconst (-1), 1) := by decide +kernel
theorem d_M_input_46 : decode prog_7_method_6_code 46 = .ok (.ireturn, 1) := by decide +kernel
theorem d_M_input_47 : decode prog_7_method_6_code 47 = .ok (.aload_n 0, 1) := by decide +kernel
theorem d_M_input_48 : decode prog_7_method_6_code 48 = .ok (.getfield 31, 3) := by decide +kernel
theorem d_M_input_51 : decode prog_7_method_6_code 51 = .ok (.aload_n 0, 1) := by decide +kernel
theorem d_M_input_52 : decode prog_7_method_6_code 52 = .ok (.getfield 131, 3) := by decide +kernel
theorem d_M_input_55 : decode prog_7_method_6_code 55 = .ok (.iload_n 1, 1) := by decide +kernel
theorem d_M_input_56 : decode prog_7_method_6_code 56 = .ok (.iastore, 1) := by decide +kernel
theorem d_M_input_57 : decode prog_7_method_6_code 57 = .ok (.aload_n 0, 1) := by decide +kernel
theorem d_M_input_58 : decode prog_7_method_6_code 58 = .ok (.getfield 34, 3) := by decide +kernel
theorem d_M_input_61 : decode prog_7_method_6_code 61 = .ok (.aload_n 0, 1) := by decide +kernel
theorem d_M_input_62 : decode prog_7_method_6_code 62 = .ok (.getfield 131, 3) := by decide +kernel
theorem d_M_input_65 : decode prog_7_method_6_code 65 = .ok (.aload_n 0, 1) := by decide +kernel
theorem d_M_input_66 : decode prog_7_method_6_code 66 = .ok (.getfield 128, 3) := by decide +kernel
theorem d_M_input_69 : decode prog_7_method_6_code 69 = .ok (.iastore, 1) := by decide +kernel
theorem d_M_input_70 : decode prog_7_method_6_code 70 = .ok (.aload_n 0, 1) := by decide +kernel
theorem d_M_input_71 : decode prog_7_method_6_code 71 = .ok (.dup, 1) := by decide +kernel
theorem d_M_input_72 : decode prog_7_method_6_code 72 = .ok (.getfield 128, 3) := by decide +kernel
theorem d_M_input_75 : decode prog_7_method_6_code 75 = .ok (.iconst 1, 1) := by decide +kernel
theorem d_M_input_76 : decode prog_7_method_6_code 76 = .ok (.iadd, 1) := by decide +kernel
theorem d_M_input_77 : decode prog_7_method_6_code 77 = .ok (.putfield 128, 3) := by decide +kernel
theorem d_M_input_80 : decode prog_7_method_6_code 80 = .ok (.aload_n 0, 1) := by decide +kernel
theorem d_M_input_81 : decode prog_7_method_6_code 81 = .ok (.dup, 1) := by decide +kernel
theorem d_M_input_82 : decode prog_7_method_6_code 82 = .ok (.getfield 131, 3) := by decide +kernel
theorem d_M_input_85 : decode prog_7_method_6_code 85 = .ok (.iconst 1, 1) := by decide +kernel
theorem d_M_input_86 : decode prog_7_method_6_code 86 = .ok (.iadd, 1) := by decide +kernel
theorem d_M_input_87 : decode prog_7_method_6_code 87 = .ok (.putfield 131, 3) := by decide +kernel
theorem d_M_input_90 : decode prog_7_method_6_code 90 = .ok (.aload_n 0, 1) := by decide +kernel
theorem d_M_input_91 : decode prog_7_method_6_code 91 = .ok (.getfield 131, 3) := by decide +kernel
theorem d_M_input_94 : decode prog_7_method_6_code 94 = .ok (.iconst 1, 1) := by decide +kernel
theorem d_M_input_95 : decode prog_7_method_6_code 95 = .ok (.isub, 1) := by decide +kernel
theorem d_M_input_96 : decode prog_7_method_6_code 96 = .ok (.ireturn, 1) := by decide +kernel
theorem d_M_output_0 : decode prog_7_method_7_code 0 = .ok (.aload_n 0, 1) := by decide +kernel
theorem d_M_output_1 : decode prog_7_method_7_code 1 = .ok (.aload_n 0, 1) := by decide +kernel
theorem d_M_output_2 : decode prog_7_method_7_code 2 = .ok (.getfield 117, 3) := by decide +kernel
theorem d_M_output_5 : decode prog_7_method_7_code 5 = .ok (.ifCond .eq (7), 3) := by decide +kernel
theorem d_M_output_8 : decode prog_7_method_7_code 8 = .ok (.iconst 1, 1) := by decide +kernel
theorem d_M_output_9 : decode prog_7_method_7_code 9 = .ok (.goto (16), 3) := by decide +kernel
theorem d_M_output_12 : decode prog_7_method_7_code 12 = .ok (.aload_n 0, 1) := by decide +kernel
theorem d_M_output_13 : decode prog_7_method_7_code 13 = .ok (.iload_n 1, 1) := by decide +kernel
theorem d_M_output_14 : decode prog_7_method_7_code 14 = .ok (.invokevirtual 121, 3) := by decide +kernel
theorem d_M_output_17 : decode prog_7_method_7_code 17 = .ok (.ifCond .eq (7), 3) := by decide +kernel
theorem d_M_output_20 : decode prog_7_method_7_code 20 = .ok (.iconst 2, 1) := by decide +kernel
theorem d_M_output_21 : decode prog_7_method_7_code 21 = .ok (.goto (4), 3) := by decide +kernel
theorem d_M_output_24 : decode prog_7_method_7_code 24 = .ok (.iconst 0, 1) := by decide +kernel
theorem d_M_output_25 : decode prog_7_method_7_code 25 = .ok (.putfield 110, 3) := by decide +kernel
theorem d_M_output_28 : decode prog_7_method_7_code 28 = .ok (.aload_n 0, 1) := by decide +kernel
theorem d_M_output_29 : decode prog_7_method_7_code 29 = .ok (.getfield 110, 3) := by decide +kernel
theorem d_M_output_32 : decode prog_7_method_7_code 32 = .ok (.ifCond .le (5), 3) := by decide +kernel
theorem d_M_output_35 : decode prog_7_method_7_code 35 = .ok (.iconst 0, 1) := by decide +kernel
theorem d_M_output_36 : decode prog_7_method_7_code 36 = .ok (.ireturn, 1) := by decide +kernel
theorem d_M_output_37 : decode prog_7_method_7_code 37 = .ok (.aload_n 0, 1) := by decide +kernel
theorem d_M_output_38 : decode prog_7_method_7_code 38 = .ok (.getfield 134, 3) := by decide +kernel
theorem d_M_output_41 : decode prog_7_method_7_code 41 = .ok (.iconst 4, 1) := by decide +kernel
theorem d_M_output_42 : decode prog_7_method_7_code 42 = .ok (.if_icmp .ne (5), 3) := by decide +kernel
theorem d_M_output_45 : decode prog_7_method_7_code 45 = .ok (.iconst (-1), 1) := by decide +kernel
theorem d_M_output_46 : decode prog_7_method_7_code 46 = .ok (.ireturn, 1) := by decide +kernel
theorem d_M_output_47 : decode prog_7_method_7_code 47 = .ok (.aload_n 0, 1) := by decide +kernel
theorem d_M_output_48 : decode prog_7_method_7_code 48 = .ok (.getfield 37, 3) := by decide +kernel
theorem d_M_output_51 : decode prog_7_method_7_code 51 = .ok (.aload_n 0, 1) := by decide +kernel
theorem d_M_output_52 : decode prog_7_method_7_code 52 = .ok (.getfield 134, 3) := by decide +kernel
theorem d_M_output_55 : decode prog_7_method_7_code 55 = .ok (.iload_n 1, 1) := by decide +kernel
theorem d_M_output_56 : decode prog_7_method_7_code 56 = .ok (.iastore, 1) := by decide +kernel
theorem d_M_output_57 : decode prog_7_method_7_code 57 = .ok (.aload_n 0, 1) := by decide +kernel
theorem d_M_output_58 : decode prog_7_method_7_code 58 = .ok (.getfield 40, 3) := by decide +kernel
theorem d_M_output_61 : decode prog_7_method_7_code 61 = .ok (.aload_n 0, 1) := by decide +kernel
theorem d_M_output_62 : decode prog_7_method_7_code 62 = .ok (.getfield 134, 3) := by decide +kernel
theorem d_M_output_65 : decode prog_7_method_7_code 65 = .ok (.aload_n 0, 1) := by decide +kernel
theorem d_M_output_66 : decode prog_7_method_7_code 66 = .ok (.getfield 128, 3) := by decide +kernel
theorem d_M_output_69 : decode prog_7_method_7_code 69 = .ok (.iastore, 1) := by decide +kernel
theorem d_M_output_70 : decode prog_7_method_7_code 70 = .ok (.aload_n 0, 1) := by decide +kernel
theorem d_M_output_71 : decode prog_7_method_7_code 71 = .ok (.dup, 1) := by decide +kernel
theorem d_M_output_72 : decode prog_7_method_7_code 72 = .ok (.getfield 128, 3) := by decide +kernel
theorem d_M_output_75 : decode prog_7_method_7_code 75 = .ok (.iconst 1, 1) := by decide +kernel
theorem d_M_output_76 : decode prog_7_method_7_code 76 = .ok (.iadd, 1) := by decide +kernel
theorem d_M_output_77 : decode prog_7_method_7_code 77 = .ok (.putfield 128, 3) := by decide +kernel
theorem d_M_output_80 : decode prog_7_method_7_code 80 = .ok (.aload_n 0, 1) := by decide +kernel
theorem d_M_output_81 : decode prog_7_method_7_code 81 = .ok (.dup, 1) := by decide +kernel
theorem d_M_output_82 : decode prog_7_method_7_code 82 = .ok (.getfield 134, 3) := by decide +kernel
theorem d_M_output_85 : decode prog_7_method_7_code 85 = .ok (.iconst 1, 1) := by decide +kernel
theorem d_M_output_86 : decode prog_7_method_7_code 86 = .ok (.iadd, 1) := by decide +kernel
theorem d_M_output_87 : decode prog_7_method_7_code 87 = .ok (.putfield 134, 3) := by decide +kernel
theorem d_M_output_90 : decode prog_7_method_7_code 90 = .ok (.aload_n 0, 1) := by decide +kernel
theorem d_M_output_91 : decode prog_7_method_7_code 91 = .ok (.getfield 134, 3) := by decide +kernel
theorem d_M_output_94 : decode prog_7_method_7_code 94 = .ok (.iconst 1, 1) := by decide +kernel
theorem d_M_output_95 : decode prog_7_method_7_code 95 = .ok (.isub, 1) := by decide +kernel
theorem d_M_output_96 : decode prog_7_method_7_code 96 = .ok (.ireturn, 1) := by decide +kernel
theorem d_M_buffers_0 : decode prog_7_method_8_code 0 = .ok (.aload_n 0, 1) := by decide +kernel
theorem d_M_buffers_1 : decode prog_7_method_8_code 1 = .ok (.aload_n 0, 1) := by decide +kernel
theorem d_M_buffers_2 : decode prog_7_method_8_code 2 = .ok (.getfield 117, 3) := by decide +kernel
theorem d_M_buffers_5 : decode prog_7_method_8_code 5 = .ok (.ifCond .eq (7), 3) := by decide +kernel
theorem d_M_buffers_8 : decode prog_7_method_8_code 8 = .ok (.iconst 1, 1) := by decide +kernel
theorem d_M_buffers_9 : decode prog_7_method_8_code 9 = .ok (.goto (29), 3) := by decide +kernel
theorem d_M_buffers_12 : decode prog_7_method_8_code 12 = .ok (.iload_n 1, 1) := by decide +kernel
theorem d_M_buffers_13 : decode prog_7_method_8_code 13 = .ok (.ifCond .lt (20), 3) := by decide +kernel
theorem d_M_buffers_16 : decode prog_7_method_8_code 16 = .ok (.iload_n 1, 1) := by decide +kernel
theorem d_M_buffers_17 : decode prog_7_method_8_code 17 = .ok (.aload_n 0, 1) := by decide +kernel
theorem d_M_buffers_18 : decode prog_7_method_8_code 18 = .ok (.getfield 125, 3) := by decide +kernel
theorem d_M_buffers_21 : decode prog_7_method_8_code 21 = .ok (.if_icmp .ge (12), 3) := by decide +kernel
theorem d_M_buffers_24 : decode prog_7_method_8_code 24 = .ok (.iload_n 2, 1) := by decide +kernel
theorem d_M_buffers_25 : decode prog_7_method_8_code 25 = .ok (.ifCond .lt (8), 3) := by decide +kernel
theorem d_M_buffers_28 : decode prog_7_method_8_code 28 = .ok (.iload_n 2, 1) := by decide +kernel
theorem d_M_buffers_29 : decode prog_7_method_8_code 29 = .ok (.iconst 3, 1) := by decide +kernel
theorem d_M_buffers_30 : decode prog_7_method_8_code 30 = .ok (.if_icmp .le (7), 3) := by decide +kernel
theorem d_M_buffers_33 : decode prog_7_method_8_code 33 = .ok (.iconst 2, 1) := by decide +kernel
theorem d_M_buffers_34 : decode prog_7_method_8_code 34 = .ok (.goto (4), 3) := by decide +kernel
theorem d_M_buffers_37 : decode prog_7_method_8_code 37 = .ok (.iconst 0, 1) := by decide +kernel
theorem d_M_buffers_38 : decode prog_7_method_8_code 38 = .ok (.putfield 110, 3) := by decide +kernel
theorem d_M_buffers_41 : decode prog_7_method_8_code 41 = .ok (.aload_n 0, 1) := by decide +kernel
theorem d_M_buffers_42 : decode prog_7_method_8_code 42 = .ok (.getfield 110, 3) := by decide +kernel
theorem d_M_buffers_45 : decode prog_7_method_8_code 45 = .ok (.ifCond .le (5), 3) := by decide +kernel
theorem d_M_buffers_48 : decode prog_7_method_8_code 48 = .ok (.iconst 0, 1) := by decide +kernel
theorem d_M_buffers_49 : decode prog_7_method_8_code 49 = .ok (.ireturn, 1) := by decide +kernel
theorem d_M_buffers_50 : decode prog_7_method_8_code 50 = .ok (.aload_n 0, 1) := by decide +kernel
theorem d_M_buffers_51 : decode prog_7_method_8_code 51 = .ok (.getfield 25, 3) := by decide +kernel
theorem d_M_buffers_54 : decode prog_7_method_8_code 54 = .ok (.iload_n 1, 1) := by decide +kernel
theorem d_M_buffers_55 : decode prog_7_method_8_code 55 = .ok (.iaload, 1) := by decide +kernel
theorem d_M_buffers_56 : decode prog_7_method_8_code 56 = .ok (.istore_n 3, 1) := by decide +kernel
theorem d_M_buffers_57 : decode prog_7_method_8_code 57 = .ok (.aload_n 0, 1) := by decide +kernel
theorem d_M_buffers_58 : decode prog_7_method_8_code 58 = .ok (.getfield 25, 3) := by decide +kernel
theorem d_M_buffers_61 : decode prog_7_method_8_code 61 = .ok (.iload_n 1, 1) := by decide +kernel
theorem d_M_buffers_62 : decode prog_7_method_8_code 62 = .ok (.iload_n 2, 1) := by decide +kernel
theorem d_M_buffers_63 : decode prog_7_method_8_code 63 = .ok (.iastore, 1) := by decide +kernel
theorem d_M_buffers_64 : decode prog_7_method_8_code 64 = .ok (.iload_n 3, 1) := by decide +kernel
theorem d_M_buffers_65 : decode prog_7_method_8_code 65 = .ok (.ireturn, 1) := by decide +kernel
theorem d_M_build_0 : decode prog_7_method_9_code 0 = .ok (.aload_n 0, 1) := by decide +kernel
theorem d_M_build_1 : decode prog_7_method_9_code 1 = .ok (.aload_n 0, 1) := by decide +kernel
theorem d_M_build_2 : decode prog_7_method_9_code 2 = .ok (.getfield 117, 3) := by decide +kernel
theorem d_M_build_5 : decode prog_7_method_9_code 5 = .ok (.ifCond .eq (7), 3) := by decide +kernel
theorem d_M_build_8 : decode prog_7_method_9_code 8 = .ok (.iconst 1, 1) := by decide +kernel
theorem d_M_build_9 : decode prog_7_method_9_code 9 = .ok (.goto (4), 3) := by decide +kernel
theorem d_M_build_12 : decode prog_7_method_9_code 12 = .ok (.iconst 0, 1) := by decide +kernel
theorem d_M_build_13 : decode prog_7_method_9_code 13 = .ok (.putfield 110, 3) := by decide +kernel
theorem d_M_build_16 : decode prog_7_method_9_code 16 = .ok (.aload_n 0, 1) := by decide +kernel
theorem d_M_build_17 : decode prog_7_method_9_code 17 = .ok (.getfield 110, 3) := by decide +kernel
theorem d_M_build_20 : decode prog_7_method_9_code 20 = .ok (.ifCond .le (5), 3) := by decide +kernel
theorem d_M_build_23 : decode prog_7_method_9_code 23 = .ok (.iconst 0, 1) := by decide +kernel
theorem d_M_build_24 : decode prog_7_method_9_code 24 = .ok (.ireturn, 1) := by decide +kernel
theorem d_M_build_25 : decode prog_7_method_9_code 25 = .ok (.aload_n 0, 1) := by decide +kernel
theorem d_M_build_26 : decode prog_7_method_9_code 26 = .ok (.iconst 1, 1) := by decide +kernel
theorem d_M_build_27 : decode prog_7_method_9_code 27 = .ok (.putfield 117, 3) := by decide +kernel
theorem d_M_build_30 : decode prog_7_method_9_code 30 = .ok (.aload_n 0, 1) := by decide +kernel
theorem d_M_build_31 : decode prog_7_method_9_code 31 = .ok (.invokevirtual 137, 3) := by decide +kernel
theorem d_M_build_34 : decode prog_7_method_9_code 34 = .ok (.aload_n 0, 1) := by decide +kernel
theorem d_M_build_35 : decode prog_7_method_9_code 35 = .ok (.invokevirtual 140, 3) := by decide +kernel
theorem d_M_build_38 : decode prog_7_method_9_code 38 = .ok (.aload_n 0, 1) := by decide +kernel
theorem d_M_build_39 : decode prog_7_method_9_code 39 = .ok (.getfield 125, 3) := by decide +kernel
theorem d_M_build_42 : decode prog_7_method_9_code 42 = .ok (.istore_n 1, 1) := by decide +kernel
theorem d_M_build_43 : decode prog_7_method_9_code 43 = .ok (.iconst 0, 1) := by decide +kernel
theorem d_M_build_44 : decode prog_7_method_9_code 44 = .ok (.istore_n 2, 1) := by decide +kernel
theorem d_M_build_45 : decode prog_7_method_9_code 45 = .ok (.iload_n 2, 1) := by decide +kernel
theorem d_M_build_46 : decode prog_7_method_9_code 46 = .ok (.aload_n 0, 1) := by decide +kernel
theorem d_M_build_47 : decode prog_7_method_9_code 47 = .ok (.getfield 125, 3) := by decide +kernel
theorem d_M_build_50 : decode prog_7_method_9_code 50 = .ok (.if_icmp .ge (18), 3) := by decide +kernel
theorem d_M_build_53 : decode prog_7_method_9_code 53 = .ok (.iload_n 1, 1) := by decide +kernel
theorem d_M_build_54 : decode prog_7_method_9_code 54 = .ok (.aload_n 0, 1) := by decide +kernel
theorem d_M_build_55 : decode prog_7_method_9_code 55 = .ok (.getfield 25, 3) := by decide +kernel
theorem d_M_build_58 : decode prog_7_method_9_code 58 = .ok (.iload_n 2, 1) := by decide +kernel
theorem d_M_build_59 : decode prog_7_method_9_code 59 = .ok (.iaload, 1) := by decide +kernel
theorem d_M_build_60 : decode prog_7_method_9_code 60 = .ok (.iadd, 1) := by decide +kernel
theorem d_M_build_61 : decode prog_7_method_9_code 61 = .ok (.istore_n 1, 1) := by decide +kernel
theorem d_M_build_62 : decode prog_7_method_9_code 62 = .ok (.iinc 2 (1), 3) := by decide +kernel
theorem d_M_build_65 : decode prog_7_method_9_code 65 = .ok (.goto (-20), 3) := by decide +kernel
theorem d_M_build_68 : decode prog_7_method_9_code 68 = .ok (.iload_n 1, 1) := by decide +kernel
theorem d_M_build_69 : decode prog_7_method_9_code 69 = .ok (.ireturn, 1) := by decide +kernel
theorem d_M_clear_0 : decode prog_7_method_10_code 0 = .ok (.aload_n 0, 1) := by decide +kernel
theorem d_M_clear_1 : decode prog_7_method_10_code 1 = .ok (.iconst 0, 1) := by decide +kernel
theorem d_M_clear_2 : decode prog_7_method_10_code 2 = .ok (.putfield 110, 3) := by decide +kernel
theorem d_M_clear_5 : decode prog_7_method_10_code 5 = .ok (.aload_n 0, 1) := by decide +kernel
theorem d_M_clear_6 : decode prog_7_method_10_code 6 = .ok (.getfield 114, 3) := by decide +kernel
theorem d_M_clear_9 : decode prog_7_method_10_code 9 = .ok (.istore_n 1, 1) := by decide +kernel
theorem d_M_clear_10 : decode prog_7_method_10_code 10 = .ok (.aload_n 0, 1) := by decide +kernel
theorem d_M_clear_11 : decode prog_7_method_10_code 11 = .ok (.iconst 0, 1) := by decide +kernel
theorem d_M_clear_12 : decode prog_7_method_10_code 12 = .ok (.putfield 117, 3) := by decide +kernel
theorem d_M_clear_15 : decode prog_7_method_10_code 15 = .ok (.aload_n 0, 1) := by decide +kernel
theorem d_M_clear_16 : decode prog_7_method_10_code 16 = .ok (.iconst 0, 1) := by decide +kernel
theorem d_M_clear_17 : decode prog_7_method_10_code 17 = .ok (.putfield 114, 3) := by decide +kernel
theorem d_M_clear_20 : decode prog_7_method_10_code 20 = .ok (.aload_n 0, 1) := by decide +kernel
theorem d_M_clear_21 : decode prog_7_method_10_code 21 = .ok (.iconst 0, 1) := by decide +kernel
theorem d_M_clear_22 : decode prog_7_method_10_code 22 = .ok (.putfield 125, 3) := by decide +kernel
theorem d_M_clear_25 : decode prog_7_method_10_code 25 = .ok (.aload_n 0, 1) := by decide +kernel
theorem d_M_clear_26 : decode prog_7_method_10_code 26 = .ok (.iconst 0, 1) := by decide +kernel
theorem d_M_clear_27 : decode prog_7_method_10_code 27 = .ok (.putfield 131, 3) := by decide +kernel
theorem d_M_clear_30 : decode prog_7_method_10_code 30 = .ok (.aload_n 0, 1) := by decide +kernel
theorem d_M_clear_31 : decode prog_7_method_10_code 31 = .ok (.iconst 0, 1) := by decide +kernel
theorem d_M_clear_32 : decode prog_7_method_10_code 32 = .ok (.putfield 134, 3) := by decide +kernel
theorem d_M_clear_35 : decode prog_7_method_10_code 35 = .ok (.aload_n 0, 1) := by decide +kernel
theorem d_M_clear_36 : decode prog_7_method_10_code 36 = .ok (.iconst 0, 1) := by decide +kernel
theorem d_M_clear_37 : decode prog_7_method_10_code 37 = .ok (.putfield 128, 3) := by decide +kernel
theorem d_M_clear_40 : decode prog_7_method_10_code 40 = .ok (.iload_n 1, 1) := by decide +kernel
theorem d_M_clear_41 : decode prog_7_method_10_code 41 = .ok (.ireturn, 1) := by decide +kernel
theorem d_M_restart_0 : decode prog_7_method_11_code 0 = .ok (.aload_n 0, 1) := by decide +kernel
theorem d_M_restart_1 : decode prog_7_method_11_code 1 = .ok (.aload_n 0, 1) := by decide +kernel
theorem d_M_restart_2 : decode prog_7_method_11_code 2 = .ok (.getfield 117, 3) := by decide +kernel
theorem d_M_restart_5 : decode prog_7_method_11_code 5 = .ok (.ifCond .eq (7), 3) := by decide +kernel
theorem d_M_restart_8 : decode prog_7_method_11_code 8 = .ok (.iconst 0, 1) := by decide +kernel
theorem d_M_restart_9 : decode prog_7_method_11_code 9 = .ok (.goto (4), 3) := by decide +kernel
theorem d_M_restart_12 : decode prog_7_method_11_code 12 = .ok (.iconst 1, 1) := by decide +kernel
theorem d_M_restart_13 : decode prog_7_method_11_code 13 = .ok (.putfield 110, 3) := by decide +kernel
theorem d_M_restart_16 : decode prog_7_method_11_code 16 = .ok (.aload_n 0, 1) := by decide +kernel
theorem d_M_restart_17 : decode prog_7_method_11_code 17 = .ok (.getfield 110, 3) := by decide +kernel
theorem d_M_restart_20 : decode prog_7_method_11_code 20 = .ok (.ifCond .ne (7), 3) := by decide +kernel
theorem d_M_restart_23 : decode prog_7_method_11_code 23 = .ok (.aload_n 0, 1) := by decide +kernel
theorem d_M_restart_24 : decode prog_7_method_11_code 24 = .ok (.invokevirtual 137, 3) := by decide +kernel
theorem d_M_restart_27 : decode prog_7_method_11_code 27 = .ok (.return_, 1) := by decide +kernel
theorem d_M_begin_0 : decode prog_7_method_12_code 0 = .ok (.aload_n 0, 1) := by decide +kernel
theorem d_M_begin_1 : decode prog_7_method_12_code 1 = .ok (.iconst 0, 1) := by decide +kernel
theorem d_M_begin_2 : decode prog_7_method_12_code 2 = .ok (.putfield 143, 3) := by decide +kernel
theorem d_M_begin_5 : decode prog_7_method_12_code 5 = .ok (.iconst 0, 1) := by decide +kernel
theorem d_M_begin_6 : decode prog_7_method_12_code 6 = .ok (.istore_n 1, 1) := by decide +kernel
theorem d_M_begin_7 : decode prog_7_method_12_code 7 = .ok (.iload_n 1, 1) := by decide +kernel
theorem d_M_begin_8 : decode prog_7_method_12_code 8 = .ok (.bipush (80), 2) := by decide +kernel
theorem d_M_begin_10 : decode prog_7_method_12_code 10 = .ok (.if_icmp .ge (16), 3) := by decide +kernel
theorem d_M_begin_13 : decode prog_7_method_12_code 13 = .ok (.aload_n 0, 1) := by decide +kernel
theorem d_M_begin_14 : decode prog_7_method_12_code 14 = .ok (.getfield 53, 3) := by decide +kernel
theorem d_M_begin_17 : decode prog_7_method_12_code 17 = .ok (.iload_n 1, 1) := by decide +kernel
theorem d_M_begin_18 : decode prog_7_method_12_code 18 = .ok (.iconst 0, 1) := by decide +kernel
theorem d_M_begin_19 : decode prog_7_method_12_code 19 = .ok (.iastore, 1) := by decide +kernel
theorem d_M_begin_20 : decode prog_7_method_12_code 20 = .ok (.iinc 1 (1), 3) := by decide +kernel
theorem d_M_begin_23 : decode prog_7_method_12_code 23 = .ok (.goto (-16), 3) := by decide +kernel
theorem d_M_begin_26 : decode prog_7_method_12_code 26 = .ok (.iconst 0, 1) := by decide +kernel
theorem d_M_begin_27 : decode prog_7_method_12_code 27 = .ok (.istore_n 1, 1) := by decide +kernel
theorem d_M_begin_28 : decode prog_7_method_12_code 28 = .ok (.iload_n 1, 1) := by decide +kernel
theorem d_M_begin_29 : decode prog_7_method_12_code 29 = .ok (.bipush (20), 2) := by decide +kernel
theorem d_M_begin_31 : decode prog_7_method_12_code 31 = .ok (.if_icmp .ge (32), 3) := by decide +kernel
theorem d_M_begin_34 : decode prog_7_method_12_code 34 = .ok (.aload_n 0, 1) := by decide +kernel
theorem d_M_begin_35 : decode prog_7_method_12_code 35 = .ok (.getfield 59, 3) := by decide +kernel
theorem d_M_begin_38 : decode prog_7_method_12_code 38 = .ok (.iload_n 1, 1) := by decide +kernel
theorem d_M_begin_39 : decode prog_7_method_12_code 39 = .ok (.iconst 0, 1) := by decide +kernel
theorem d_M_begin_40 : decode prog_7_method_12_code 40 = .ok (.iastore, 1) := by decide +kernel
theorem d_M_begin_41 : decode prog_7_method_12_code 41 = .ok (.aload_n 0, 1) := by decide +kernel
theorem d_M_begin_42 : decode prog_7_method_12_code 42 = .ok (.getfield 46, 3) := by decide +kernel
theorem d_M_begin_45 : decode prog_7_method_12_code 45 = .ok (.sipush (1002), 3) := by decide +kernel
theorem d_M_begin_48 : decode prog_7_method_12_code 48 = .ok (.iload_n 1, 1) := by decide +kernel
theorem d_M_begin_49 : decode prog_7_method_12_code 49 = .ok (.imul, 1) := by decide +kernel
theorem d_M_begin_50 : decode prog_7_method_12_code 50 = .ok (.aload_n 0, 1) := by decide +kernel
theorem d_M_begin_51 : decode prog_7_method_12_code 51 = .ok (.getfield 22, 3) := by decide +kernel
theorem d_M_begin_54 : decode prog_7_method_12_code 54 = .ok (.iload_n 1, 1) := by decide +kernel
theorem d_M_begin_55 : decode prog_7_method_12_code 55 = .ok (.iaload, 1) := by decide +kernel
theorem d_M_begin_56 : decode prog_7_method_12_code 56 = .ok (.iastore, 1) := by decide +kernel
theorem d_M_begin_57 : decode prog_7_method_12_code 57 = .ok (.iinc 1 (1), 3) := by decide +kernel
theorem d_M_begin_60 : decode prog_7_method_12_code 60 = .ok (.goto (-32), 3) := by decide +kernel
theorem d_M_begin_63 : decode prog_7_method_12_code 63 = .ok (.iconst 0, 1) := by decide +kernel
theorem d_M_begin_64 : decode prog_7_method_12_code 64 = .ok (.istore_n 1, 1) := by decide +kernel
theorem d_M_begin_65 : decode prog_7_method_12_code 65 = .ok (.iload_n 1, 1) := by decide +kernel
theorem d_M_begin_66 : decode prog_7_method_12_code 66 = .ok (.bipush (10), 2) := by decide +kernel
theorem d_M_begin_68 : decode prog_7_method_12_code 68 = .ok (.if_icmp .ge (16), 3) := by decide +kernel
theorem d_M_begin_71 : decode prog_7_method_12_code 71 = .ok (.aload_n 0, 1) := by decide +kernel
theorem d_M_begin_72 : decode prog_7_method_12_code 72 = .ok (.getfield 65, 3) := by decide +kernel
theorem d_M_begin_75 : decode prog_7_method_12_code 75 = .ok (.iload_n 1, 1) := by decide +kernel
theorem d_M_begin_76 : decode prog_7_method_12_code 76 = .ok (.iconst 0, 1) := by decide +kernel
theorem d_M_begin_77 : decode prog_7_method_12_code 77 = .ok (.iastore, 1) := by decide +kernel
theorem d_M_begin_78 : decode prog_7_method_12_code 78 = .ok (.iinc 1 (1), 3) := by decide +kernel
theorem d_M_begin_81 : decode prog_7_method_12_code 81 = .ok (.goto (-16), 3) := by decide +kernel
theorem d_M_begin_84 : decode prog_7_method_12_code 84 = .ok (.iconst 0, 1) := by decide +kernel
theorem d_M_begin_85 : decode prog_7_method_12_code 85 = .ok (.istore_n 1, 1) := by decide +kernel
theorem d_M_begin_86 : decode prog_7_method_12_code 86 = .ok (.iload_n 1, 1) := by decide +kernel
theorem d_M_begin_87 : decode prog_7_method_12_code 87 = .ok (.iconst 4, 1) := by decide +kernel
theorem d_M_begin_88 : decode prog_7_method_12_code 88 = .ok (.if_icmp .ge (23), 3) := by decide +kernel
theorem d_M_begin_91 : decode prog_7_method_12_code 91 = .ok (.aload_n 0, 1) := by decide +kernel
theorem d_M_begin_92 : decode prog_7_method_12_code 92 = .ok (.getfield 74, 3) := by decide +kernel
theorem d_M_begin_95 : decode prog_7_method_12_code 95 = .ok (.iload_n 1, 1) := by decide +kernel
theorem d_M_begin_96 : decode prog_7_method_12_code 96 = .ok (.iconst 0, 1) := by decide +kernel
theorem d_M_begin_97 : decode prog_7_method_12_code 97 = .ok (.iastore, 1) := by decide +kernel
theorem d_M_begin_98 : decode prog_7_method_12_code 98 = .ok (.aload_n 0, 1) := by decide +kernel
theorem d_M_begin_99 : decode prog_7_method_12_code 99 = .ok (.getfield 83, 3) := by decide +kernel
theorem d_M_begin_102 : decode prog_7_method_12_code 102 = .ok (.iload_n 1, 1) := by decide +kernel
theorem d_M_begin_103 : decode prog_7_method_12_code 103 = .ok (.iconst 0, 1) := by decide +kernel
theorem d_M_begin_104 : decode prog_7_method_12_code 104 = .ok (.iastore, 1) := by decide +kernel
theorem d_M_begin_105 : decode prog_7_method_12_code 105 = .ok (.iinc 1 (1), 3) := by decide +kernel
theorem d_M_begin_108 : decode prog_7_method_12_code 108 = .ok (.goto (-22), 3) := by decide +kernel
theorem d_M_begin_111 : decode prog_7_method_12_code 111 = .ok (.return_, 1) := by decide +kernel
theorem d_M_later_0 : decode prog_7_method_13_code 0 = .ok (.iload_n 1, 1) := by decide +kernel
theorem d_M_later_1 : decode prog_7_method_13_code 1 = .ok (.iload_n 2, 1) := by decide +kernel
theorem d_M_later_2 : decode prog_7_method_13_code 2 = .ok (.if_icmp .le (7), 3) := by decide +kernel
theorem d_M_later_5 : decode prog_7_method_13_code 5 = .ok (.iload_n 1, 1) := by decide +kernel
theorem d_M_later_6 : decode prog_7_method_13_code 6 = .ok (.goto (4), 3) := by decide +kernel
theorem d_M_later_9 : decode prog_7_method_13_code 9 = .ok (.iload_n 2, 1) := by decide +kernel
theorem d_M_later_10 : decode prog_7_method_13_code 10 = .ok (.ireturn, 1) := by decide +kernel
theorem d_M_came_0 : decode prog_7_method_14_code 0 = .ok (.iload_n 2, 1) := by decide +kernel
theorem d_M_came_1 : decode prog_7_method_14_code 1 = .ok (.ifCond .ne (14), 3) := by decide +kernel
theorem d_M_came_4 : decode prog_7_method_14_code 4 = .ok (.aload_n 0, 1) := by decide +kernel
theorem d_M_came_5 : decode prog_7_method_14_code 5 = .ok (.getfield 59, 3) := by decide +kernel
theorem d_M_came_8 : decode prog_7_method_14_code 8 = .ok (.iload_n 1, 1) := by decide +kernel
theorem d_M_came_9 : decode prog_7_method_14_code 9 = .ok (.iaload, 1) := by decide +kernel
theorem d_M_came_10 : decode prog_7_method_14_code 10 = .ok (.iconst 1, 1) := by decide +kernel
theorem d_M_came_11 : decode prog_7_method_14_code 11 = .ok (.iadd, 1) := by decide +kernel
theorem d_M_came_12 : decode prog_7_method_14_code 12 = .ok (.goto (15), 3) := by decide +kernel
theorem d_M_came_15 : decode prog_7_method_14_code 15 = .ok (.aload_n 0, 1) := by decide +kernel
theorem d_M_came_16 : decode prog_7_method_14_code 16 = .ok (.getfield 53, 3) := by decide +kernel
theorem d_M_came_19 : decode prog_7_method_14_code 19 = .ok (.iconst 4, 1) := by decide +kernel
theorem d_M_came_20 : decode prog_7_method_14_code 20 = .ok (.iload_n 1, 1) := by decide +kernel
theorem d_M_came_21 : decode prog_7_method_14_code 21 = .ok (.imul, 1) := by decide +kernel
theorem d_M_came_22 : decode prog_7_method_14_code 22 = .ok (.iload_n 2, 1) := by decide +kernel
theorem d_M_came_23 : decode prog_7_method_14_code 23 = .ok (.iadd, 1) := by decide +kernel
theorem d_M_came_24 : decode prog_7_method_14_code 24 = .ok (.iconst 1, 1) := by decide +kernel
theorem d_M_came_25 : decode prog_7_method_14_code 25 = .ok (.isub, 1) := by decide +kernel
theorem d_M_came_26 : decode prog_7_method_14_code 26 = .ok (.iaload, 1) := by decide +kernel
theorem d_M_came_27 : decode prog_7_method_14_code 27 = .ok (.ireturn, 1) := by decide +kernel
theorem d_M_gone_0 : decode prog_7_method_15_code 0 = .ok (.iload_n 2, 1) := by decide +kernel
theorem d_M_gone_1 : decode prog_7_method_15_code 1 = .ok (.aload_n 0, 1) := by decide +kernel
theorem d_M_gone_2 : decode prog_7_method_15_code 2 = .ok (.getfield 25, 3) := by decide +kernel
theorem d_M_gone_5 : decode prog_7_method_15_code 5 = .ok (.iload_n 1, 1) := by decide +kernel
theorem d_M_gone_6 : decode prog_7_method_15_code 6 = .ok (.iaload, 1) := by decide +kernel
theorem d_M_gone_7 : decode prog_7_method_15_code 7 = .ok (.if_icmp .ne (17), 3) := by decide +kernel
theorem d_M_gone_10 : decode prog_7_method_15_code 10 = .ok (.aload_n 0, 1) := by decide +kernel
theorem d_M_gone_11 : decode prog_7_method_15_code 11 = .ok (.getfield 65, 3) := by decide +kernel
theorem d_M_gone_14 : decode prog_7_method_15_code 14 = .ok (.aload_n 0, 1) := by decide +kernel
theorem d_M_gone_15 : decode prog_7_method_15_code 15 = .ok (.getfield 19, 3) := by decide +kernel
theorem d_M_gone_18 : decode prog_7_method_15_code 18 = .ok (.iload_n 1, 1) := by decide +kernel
theorem d_M_gone_19 : decode prog_7_method_15_code 19 = .ok (.iaload, 1) := by decide +kernel
theorem d_M_gone_20 : decode prog_7_method_15_code 20 = .ok (.iaload, 1) := by decide +kernel
theorem d_M_gone_21 : decode prog_7_method_15_code 21 = .ok (.goto (13), 3) := by decide +kernel
theorem d_M_gone_24 : decode prog_7_method_15_code 24 = .ok (.aload_n 0, 1) := by decide +kernel
theorem d_M_gone_25 : decode prog_7_method_15_code 25 = .ok (.getfield 53, 3) := by decide +kernel
theorem d_M_gone_28 : decode prog_7_method_15_code 28 = .ok (.iconst 4, 1) := by decide +kernel
theorem d_M_gone_29 : decode prog_7_method_15_code 29 = .ok (.iload_n 1, 1) := by decide +kernel
theorem d_M_gone_30 : decode prog_7_method_15_code 30 = .ok (.imul, 1) := by decide +kernel
theorem d_M_gone_31 : decode prog_7_method_15_code 31 = .ok (.iload_n 2, 1) := by decide +kernel
theorem d_M_gone_32 : decode prog_7_method_15_code 32 = .ok (.iadd, 1) := by decide +kernel
theorem d_M_gone_33 : decode prog_7_method_15_code 33 = .ok (.iaload, 1) := by decide +kernel
theorem d_M_gone_34 : decode prog_7_method_15_code 34 = .ok (.ireturn, 1) := by decide +kernel
theorem d_M_cameAt_0 : decode prog_7_method_16_code 0 = .ok (.iload_n 2, 1) := by decide +kernel
theorem d_M_cameAt_1 : decode prog_7_method_16_code 1 = .ok (.ifCond .le (24), 3) := by decide +kernel
theorem d_M_cameAt_4 : decode prog_7_method_16_code 4 = .ok (.aload_n 0, 1) := by decide +kernel
theorem d_M_cameAt_5 : decode prog_7_method_16_code 5 = .ok (.getfield 50, 3) := by decide +kernel
theorem d_M_cameAt_8 : decode prog_7_method_16_code 8 = .ok (.sipush (1002), 3) := by decide +kernel
theorem d_M_cameAt_11 : decode prog_7_method_16_code 11 = .ok (.iconst 4, 1) := by decide +kernel
theorem d_M_cameAt_12 : decode prog_7_method_16_code 12 = .ok (.iload_n 1, 1) := by decide +kernel
theorem d_M_cameAt_13 : decode prog_7_method_16_code 13 = .ok (.imul, 1) := by decide +kernel
theorem d_M_cameAt_14 : decode prog_7_method_16_code 14 = .ok (.iload_n 2, 1) := by decide +kernel
theorem d_M_cameAt_15 : decode prog_7_method_16_code 15 = .ok (.iadd, 1) := by decide +kernel
theorem d_M_cameAt_16 : decode prog_7_method_16_code 16 = .ok (.iconst 1, 1) := by decide +kernel
theorem d_M_cameAt_17 : decode prog_7_method_16_code 17 = .ok (.isub, 1) := by decide +kernel
theorem d_M_cameAt_18 : decode prog_7_method_16_code 18 = .ok (.imul, 1) := by decide +kernel
theorem d_M_cameAt_19 : decode prog_7_method_16_code 19 = .ok (.iload_n 3, 1) := by decide +kernel
theorem d_M_cameAt_20 : decode prog_7_method_16_code 20 = .ok (.iadd, 1) := by decide +kernel
theorem d_M_cameAt_21 : decode prog_7_method_16_code 21 = .ok (.iaload, 1) := by decide +kernel
theorem d_M_cameAt_22 : decode prog_7_method_16_code 22 = .ok (.goto (25), 3) := by decide +kernel
theorem d_M_cameAt_25 : decode prog_7_method_16_code 25 = .ok (.iload_n 3, 1) := by decide +kernel
theorem d_M_cameAt_26 : decode prog_7_method_16_code 26 = .ok (.ifCond .ne (7), 3) := by decide +kernel
theorem d_M_cameAt_29 : decode prog_7_method_16_code 29 = .ok (.iconst (-1), 1) := by decide +kernel
theorem d_M_cameAt_30 : decode prog_7_method_16_code 30 = .ok (.goto (17), 3) := by decide +kernel
theorem d_M_cameAt_33 : decode prog_7_method_16_code 33 = .ok (.aload_n 0, 1) := by decide +kernel
theorem d_M_cameAt_34 : decode prog_7_method_16_code 34 = .ok (.getfield 56, 3) := by decide +kernel
theorem d_M_cameAt_37 : decode prog_7_method_16_code 37 = .ok (.sipush (1002), 3) := by decide +kernel
theorem d_M_cameAt_40 : decode prog_7_method_16_code 40 = .ok (.iload_n 1, 1) := by decide +kernel
theorem d_M_cameAt_41 : decode prog_7_method_16_code 41 = .ok (.imul, 1) := by decide +kernel
theorem d_M_cameAt_42 : decode prog_7_method_16_code 42 = .ok (.iload_n 3, 1) := by decide +kernel
theorem d_M_cameAt_43 : decode prog_7_method_16_code 43 = .ok (.iadd, 1) := by decide +kernel
theorem d_M_cameAt_44 : decode prog_7_method_16_code 44 = .ok (.iconst 1, 1) := by decide +kernel
theorem d_M_cameAt_45 : decode prog_7_method_16_code 45 = .ok (.isub, 1) := by decide +kernel
theorem d_M_cameAt_46 : decode prog_7_method_16_code 46 = .ok (.iaload, 1) := by decide +kernel
theorem d_M_cameAt_47 : decode prog_7_method_16_code 47 = .ok (.ireturn, 1) := by decide +kernel
theorem d_M_goneAt_0 : decode prog_7_method_17_code 0 = .ok (.iload_n 2, 1) := by decide +kernel
theorem d_M_goneAt_1 : decode prog_7_method_17_code 1 = .ok (.aload_n 0, 1) := by decide +kernel
theorem d_M_goneAt_2 : decode prog_7_method_17_code 2 = .ok (.getfield 25, 3) := by decide +kernel
theorem d_M_goneAt_5 : decode prog_7_method_17_code 5 = .ok (.iload_n 1, 1) := by decide +kernel
theorem d_M_goneAt_6 : decode prog_7_method_17_code 6 = .ok (.iaload, 1) := by decide +kernel
theorem d_M_goneAt_7 : decode prog_7_method_17_code 7 = .ok (.if_icmp .ne (23), 3) := by decide +kernel
theorem d_M_goneAt_10 : decode prog_7_method_17_code 10 = .ok (.aload_n 0, 1) := by decide +kernel
theorem d_M_goneAt_11 : decode prog_7_method_17_code 11 = .ok (.getfield 62, 3) := by decide +kernel
theorem d_M_goneAt_14 : decode prog_7_method_17_code 14 = .ok (.sipush (1002), 3) := by decide +kernel
theorem d_M_goneAt_17 : decode prog_7_method_17_code 17 = .ok (.aload_n 0, 1) := by decide +kernel
theorem d_M_goneAt_18 : decode prog_7_method_17_code 18 = .ok (.getfield 19, 3) := by decide +kernel
theorem d_M_goneAt_21 : decode prog_7_method_17_code 21 = .ok (.iload_n 1, 1) := by decide +kernel
theorem d_M_goneAt_22 : decode prog_7_method_17_code 22 = .ok (.iaload, 1) := by decide +kernel
theorem d_M_goneAt_23 : decode prog_7_method_17_code 23 = .ok (.imul, 1) := by decide +kernel
theorem d_M_goneAt_24 : decode prog_7_method_17_code 24 = .ok (.iload_n 3, 1) := by decide +kernel
theorem d_M_goneAt_25 : decode prog_7_method_17_code 25 = .ok (.iadd, 1) := by decide +kernel
theorem d_M_goneAt_26 : decode prog_7_method_17_code 26 = .ok (.iaload, 1) := by decide +kernel
theorem d_M_goneAt_27 : decode prog_7_method_17_code 27 = .ok (.goto (19), 3) := by decide +kernel
theorem d_M_goneAt_30 : decode prog_7_method_17_code 30 = .ok (.aload_n 0, 1) := by decide +kernel
theorem d_M_goneAt_31 : decode prog_7_method_17_code 31 = .ok (.getfield 50, 3) := by decide +kernel
theorem d_M_goneAt_34 : decode prog_7_method_17_code 34 = .ok (.sipush (1002), 3) := by decide +kernel
theorem d_M_goneAt_37 : decode prog_7_method_17_code 37 = .ok (.iconst 4, 1) := by decide +kernel
theorem d_M_goneAt_38 : decode prog_7_method_17_code 38 = .ok (.iload_n 1, 1) := by decide +kernel
theorem d_M_goneAt_39 : decode prog_7_method_17_code 39 = .ok (.imul, 1) := by decide +kernel
theorem d_M_goneAt_40 : decode prog_7_method_17_code 40 = .ok (.iload_n 2, 1) := by decide +kernel
theorem d_M_goneAt_41 : decode prog_7_method_17_code 41 = .ok (.iadd, 1) := by decide +kernel
theorem d_M_goneAt_42 : decode prog_7_method_17_code 42 = .ok (.imul, 1) := by decide +kernel
theorem d_M_goneAt_43 : decode prog_7_method_17_code 43 = .ok (.iload_n 3, 1) := by decide +kernel
theorem d_M_goneAt_44 : decode prog_7_method_17_code 44 = .ok (.iadd, 1) := by decide +kernel
theorem d_M_goneAt_45 : decode prog_7_method_17_code 45 = .ok (.iaload, 1) := by decide +kernel
theorem d_M_goneAt_46 : decode prog_7_method_17_code 46 = .ok (.ireturn, 1) := by decide +kernel
theorem d_M_move_0 : decode prog_7_method_18_code 0 = .ok (.aload_n 0, 1) := by decide +kernel
theorem d_M_move_1 : decode prog_7_method_18_code 1 = .ok (.getfield 53, 3) := by decide +kernel
theorem d_M_move_4 : decode prog_7_method_18_code 4 = .ok (.iconst 4, 1) := by decide +kernel
theorem d_M_move_5 : decode prog_7_method_18_code 5 = .ok (.iload_n 1, 1) := by decide +kernel
theorem d_M_move_6 : decode prog_7_method_18_code 6 = .ok (.imul, 1) := by decide +kernel
theorem d_M_move_7 : decode prog_7_method_18_code 7 = .ok (.iload_n 2, 1) := by decide +kernel
theorem d_M_move_8 : decode prog_7_method_18_code 8 = .ok (.iadd, 1) := by decide +kernel
theorem d_M_move_9 : decode prog_7_method_18_code 9 = .ok (.iaload, 1) := by decide +kernel
theorem d_M_move_10 : decode prog_7_method_18_code 10 = .ok (.istore 4, 2) := by decide +kernel
theorem d_M_move_12 : decode prog_7_method_18_code 12 = .ok (.aload_n 0, 1) := by decide +kernel
theorem d_M_move_13 : decode prog_7_method_18_code 13 = .ok (.iload_n 1, 1) := by decide +kernel
theorem d_M_move_14 : decode prog_7_method_18_code 14 = .ok (.iload_n 2, 1) := by decide +kernel
theorem d_M_move_15 : decode prog_7_method_18_code 15 = .ok (.invokevirtual 146, 3) := by decide +kernel
theorem d_M_move_18 : decode prog_7_method_18_code 18 = .ok (.iload 4, 2) := by decide +kernel
theorem d_M_move_20 : decode prog_7_method_18_code 20 = .ok (.if_icmp .le (24), 3) := by decide +kernel
theorem d_M_move_23 : decode prog_7_method_18_code 23 = .ok (.iload 4, 2) := by decide +kernel
theorem d_M_move_25 : decode prog_7_method_18_code 25 = .ok (.iconst 1, 1) := by decide +kernel
theorem d_M_move_26 : decode prog_7_method_18_code 26 = .ok (.if_icmp .le (20), 3) := by decide +kernel
theorem d_M_move_29 : decode prog_7_method_18_code 29 = .ok (.aload_n 0, 1) := by decide +kernel
theorem d_M_move_30 : decode prog_7_method_18_code 30 = .ok (.iload_n 1, 1) := by decide +kernel
theorem d_M_move_31 : decode prog_7_method_18_code 31 = .ok (.iload_n 2, 1) := by decide +kernel
theorem d_M_move_32 : decode prog_7_method_18_code 32 = .ok (.iconst 1, 1) := by decide +kernel
theorem d_M_move_33 : decode prog_7_method_18_code 33 = .ok (.iadd, 1) := by decide +kernel
theorem d_M_move_34 : decode prog_7_method_18_code 34 = .ok (.invokevirtual 150, 3) := by decide +kernel
theorem d_M_move_37 : decode prog_7_method_18_code 37 = .ok (.iload 4, 2) := by decide +kernel
theorem d_M_move_39 : decode prog_7_method_18_code 39 = .ok (.iconst 2, 1) := by decide +kernel
theorem d_M_move_40 : decode prog_7_method_18_code 40 = .ok (.isub, 1) := by decide +kernel
theorem d_M_move_41 : decode prog_7_method_18_code 41 = .ok (.if_icmp .gt (5), 3) := by decide +kernel
theorem d_M_move_44 : decode prog_7_method_18_code 44 = .ok (.iconst 0, 1) := by decide +kernel
theorem d_M_move_45 : decode prog_7_method_18_code 45 = .ok (.ireturn, 1) := by decide +kernel
theorem d_M_move_46 : decode prog_7_method_18_code 46 = .ok (.aload_n 0, 1) := by decide +kernel
theorem d_M_move_47 : decode prog_7_method_18_code 47 = .ok (.iload_n 1, 1) := by decide +kernel
theorem d_M_move_48 : decode prog_7_method_18_code 48 = .ok (.iload_n 2, 1) := by decide +kernel
theorem d_M_move_49 : decode prog_7_method_18_code 49 = .ok (.iload 4, 2) := by decide +kernel
theorem d_M_move_51 : decode prog_7_method_18_code 51 = .ok (.invokevirtual 153, 3) := by decide +kernel
theorem d_M_move_54 : decode prog_7_method_18_code 54 = .ok (.iconst 1, 1) := by decide +kernel
theorem d_M_move_55 : decode prog_7_method_18_code 55 = .ok (.iadd, 1) := by decide +kernel
theorem d_M_move_56 : decode prog_7_method_18_code 56 = .ok (.istore 5, 2) := by decide +kernel
theorem d_M_move_58 : decode prog_7_method_18_code 58 = .ok (.iload 4, 2) := by decide +kernel
theorem d_M_move_60 : decode prog_7_method_18_code 60 = .ok (.ifCond .le (33), 3) := by decide +kernel
theorem d_M_move_63 : decode prog_7_method_18_code 63 = .ok (.aload_n 0, 1) := by decide +kernel
theorem d_M_move_64 : decode prog_7_method_18_code 64 = .ok (.iload 5, 2) := by decide +kernel
theorem d_M_move_66 : decode prog_7_method_18_code 66 = .ok (.aload_n 0, 1) := by decide +kernel
theorem d_M_move_67 : decode prog_7_method_18_code 67 = .ok (.getfield 50, 3) := by decide +kernel
theorem d_M_move_70 : decode prog_7_method_18_code 70 = .ok (.sipush (1002), 3) := by decide +kernel
theorem d_M_move_73 : decode prog_7_method_18_code 73 = .ok (.iconst 4, 1) := by decide +kernel
theorem d_M_move_74 : decode prog_7_method_18_code 74 = .ok (.iload_n 1, 1) := by decide +kernel
theorem d_M_move_75 : decode prog_7_method_18_code 75 = .ok (.imul, 1) := by decide +kernel
theorem d_M_move_76 : decode prog_7_method_18_code 76 = .ok (.iload_n 2, 1) := by decide +kernel
theorem d_M_move_77 : decode prog_7_method_18_code 77 = .ok (.iadd, 1) := by decide +kernel
theorem d_M_move_78 : decode prog_7_method_18_code 78 = .ok (.imul, 1) := by decide +kernel
theorem d_M_move_79 : decode prog_7_method_18_code 79 = .ok (.iload 4, 2) := by decide +kernel
theorem d_M_move_81 : decode prog_7_method_18_code 81 = .ok (.iadd, 1) := by decide +kernel
theorem d_M_move_82 : decode prog_7_method_18_code 82 = .ok (.iconst 1, 1) := by decide +kernel
theorem d_M_move_83 : decode prog_7_method_18_code 83 = .ok (.isub, 1) := by decide +kernel
theorem d_M_move_84 : decode prog_7_method_18_code 84 = .ok (.iaload, 1) := by decide +kernel
theorem d_M_move_85 : decode prog_7_method_18_code 85 = .ok (.iconst 1, 1) := by decide +kernel
theorem d_M_move_86 : decode prog_7_method_18_code 86 = .ok (.iadd, 1) := by decide +kernel
theorem d_M_move_87 : decode prog_7_method_18_code 87 = .ok (.invokevirtual 157, 3) := by decide +kernel
theorem d_M_move_90 : decode prog_7_method_18_code 90 = .ok (.goto (5), 3) := by decide +kernel
theorem d_M_move_93 : decode prog_7_method_18_code 93 = .ok (.iload 5, 2) := by decide +kernel
theorem d_M_move_95 : decode prog_7_method_18_code 95 = .ok (.istore 5, 2) := by decide +kernel
theorem d_M_move_97 : decode prog_7_method_18_code 97 = .ok (.iload 4, 2) := by decide +kernel
theorem d_M_move_99 : decode prog_7_method_18_code 99 = .ok (.iconst 1, 1) := by decide +kernel
theorem d_M_move_100 : decode prog_7_method_18_code 100 = .ok (.if_icmp .le (26), 3) := by decide +kernel
theorem d_M_move_103 : decode prog_7_method_18_code 103 = .ok (.aload_n 0, 1) := by decide +kernel
theorem d_M_move_104 : decode prog_7_method_18_code 104 = .ok (.iload 5, 2) := by decide +kernel
theorem d_M_move_106 : decode prog_7_method_18_code 106 = .ok (.aload_n 0, 1) := by decide +kernel
theorem d_M_move_107 : decode prog_7_method_18_code 107 = .ok (.iload_n 1, 1) := by decide +kernel
theorem d_M_move_108 : decode prog_7_method_18_code 108 = .ok (.iload_n 2, 1) := by decide +kernel
theorem d_M_move_109 : decode prog_7_method_18_code 109 = .ok (.iconst 1, 1) := by decide +kernel
theorem d_M_move_110 : decode prog_7_method_18_code 110 = .ok (.iadd, 1) := by decide +kernel
theorem d_M_move_111 : decode prog_7_method_18_code 111 = .ok (.iload 4, 2) := by decide +kernel
theorem d_M_move_113 : decode prog_7_method_18_code 113 = .ok (.iconst 2, 1) := by decide +kernel
theorem d_M_move_114 : decode prog_7_method_18_code 114 = .ok (.isub, 1) := by decide +kernel
theorem d_M_move_115 : decode prog_7_method_18_code 115 = .ok (.invokevirtual 160, 3) := by decide +kernel
theorem d_M_move_118 : decode prog_7_method_18_code 118 = .ok (.iconst 1, 1) := by decide +kernel
theorem d_M_move_119 : decode prog_7_method_18_code 119 = .ok (.iadd, 1) := by decide +kernel
theorem d_M_move_120 : decode prog_7_method_18_code 120 = .ok (.invokevirtual 157, 3) := by decide +kernel
theorem d_M_move_123 : decode prog_7_method_18_code 123 = .ok (.goto (5), 3) := by decide +kernel
theorem d_M_move_126 : decode prog_7_method_18_code 126 = .ok (.iload 5, 2) := by decide +kernel
theorem d_M_move_128 : decode prog_7_method_18_code 128 = .ok (.istore 5, 2) := by decide +kernel
theorem d_M_move_130 : decode prog_7_method_18_code 130 = .ok (.iload 5, 2) := by decide +kernel
theorem d_M_move_132 : decode prog_7_method_18_code 132 = .ok (.iload_n 3, 1) := by decide +kernel
theorem d_M_move_133 : decode prog_7_method_18_code 133 = .ok (.if_icmp .le (5), 3) := by decide +kernel
theorem d_M_move_136 : decode prog_7_method_18_code 136 = .ok (.iconst 0, 1) := by decide +kernel
theorem d_M_move_137 : decode prog_7_method_18_code 137 = .ok (.ireturn, 1) := by decide +kernel
theorem d_M_move_138 : decode prog_7_method_18_code 138 = .ok (.aload_n 0, 1) := by decide +kernel
theorem d_M_move_139 : decode prog_7_method_18_code 139 = .ok (.getfield 50, 3) := by decide +kernel
theorem d_M_move_142 : decode prog_7_method_18_code 142 = .ok (.sipush (1002), 3) := by decide +kernel
theorem d_M_move_145 : decode prog_7_method_18_code 145 = .ok (.iconst 4, 1) := by decide +kernel
theorem d_M_move_146 : decode prog_7_method_18_code 146 = .ok (.iload_n 1, 1) := by decide +kernel
theorem d_M_move_147 : decode prog_7_method_18_code 147 = .ok (.imul, 1) := by decide +kernel
theorem d_M_move_148 : decode prog_7_method_18_code 148 = .ok (.iload_n 2, 1) := by decide +kernel
theorem d_M_move_149 : decode prog_7_method_18_code 149 = .ok (.iadd, 1) := by decide +kernel
theorem d_M_move_150 : decode prog_7_method_18_code 150 = .ok (.imul, 1) := by decide +kernel
theorem d_M_move_151 : decode prog_7_method_18_code 151 = .ok (.iload 4, 2) := by decide +kernel
theorem d_M_move_153 : decode prog_7_method_18_code 153 = .ok (.iadd, 1) := by decide +kernel
theorem d_M_move_154 : decode prog_7_method_18_code 154 = .ok (.iload 5, 2) := by decide +kernel
theorem d_M_move_156 : decode prog_7_method_18_code 156 = .ok (.iastore, 1) := by decide +kernel
theorem d_M_move_157 : decode prog_7_method_18_code 157 = .ok (.aload_n 0, 1) := by decide +kernel
theorem d_M_move_158 : decode prog_7_method_18_code 158 = .ok (.getfield 53, 3) := by decide +kernel
theorem d_M_move_161 : decode prog_7_method_18_code 161 = .ok (.iconst 4, 1) := by decide +kernel
theorem d_M_move_162 : decode prog_7_method_18_code 162 = .ok (.iload_n 1, 1) := by decide +kernel
theorem d_M_move_163 : decode prog_7_method_18_code 163 = .ok (.imul, 1) := by decide +kernel
theorem d_M_move_164 : decode prog_7_method_18_code 164 = .ok (.iload_n 2, 1) := by decide +kernel
theorem d_M_move_165 : decode prog_7_method_18_code 165 = .ok (.iadd, 1) := by decide +kernel
theorem d_M_move_166 : decode prog_7_method_18_code 166 = .ok (.iload 4, 2) := by decide +kernel
theorem d_M_move_168 : decode prog_7_method_18_code 168 = .ok (.iconst 1, 1) := by decide +kernel
theorem d_M_move_169 : decode prog_7_method_18_code 169 = .ok (.iadd, 1) := by decide +kernel
theorem d_M_move_170 : decode prog_7_method_18_code 170 = .ok (.iastore, 1) := by decide +kernel
theorem d_M_move_171 : decode prog_7_method_18_code 171 = .ok (.iconst 1, 1) := by decide +kernel
theorem d_M_move_172 : decode prog_7_method_18_code 172 = .ok (.ireturn, 1) := by decide +kernel
theorem d_M_ready_0 : decode prog_7_method_19_code 0 = .ok (.aload_n 0, 1) := by decide +kernel
theorem d_M_ready_1 : decode prog_7_method_19_code 1 = .ok (.getfield 65, 3) := by decide +kernel
theorem d_M_ready_4 : decode prog_7_method_19_code 4 = .ok (.iload_n 1, 1) := by decide +kernel
theorem d_M_ready_5 : decode prog_7_method_19_code 5 = .ok (.iaload, 1) := by decide +kernel
theorem d_M_ready_6 : decode prog_7_method_19_code 6 = .ok (.istore_n 2, 1) := by decide +kernel
theorem d_M_ready_7 : decode prog_7_method_19_code 7 = .ok (.iload_n 2, 1) := by decide +kernel
theorem d_M_ready_8 : decode prog_7_method_19_code 8 = .ok (.ifCond .ne (7), 3) := by decide +kernel
theorem d_M_ready_11 : decode prog_7_method_19_code 11 = .ok (.iconst 0, 1) := by decide +kernel
theorem d_M_ready_12 : decode prog_7_method_19_code 12 = .ok (.goto (19), 3) := by decide +kernel
theorem d_M_ready_15 : decode prog_7_method_19_code 15 = .ok (.aload_n 0, 1) := by decide +kernel
theorem d_M_ready_16 : decode prog_7_method_19_code 16 = .ok (.getfield 62, 3) := by decide +kernel
theorem d_M_ready_19 : decode prog_7_method_19_code 19 = .ok (.sipush (1002), 3) := by decide +kernel
theorem d_M_ready_22 : decode prog_7_method_19_code 22 = .ok (.iload_n 1, 1) := by decide +kernel
theorem d_M_ready_23 : decode prog_7_method_19_code 23 = .ok (.imul, 1) := by decide +kernel
theorem d_M_ready_24 : decode prog_7_method_19_code 24 = .ok (.iload_n 2, 1) := by decide +kernel
theorem d_M_ready_25 : decode prog_7_method_19_code 25 = .ok (.iadd, 1) := by decide +kernel
theorem d_M_ready_26 : decode prog_7_method_19_code 26 = .ok (.iconst 1, 1) := by decide +kernel
theorem d_M_ready_27 : decode prog_7_method_19_code 27 = .ok (.isub, 1) := by decide +kernel
theorem d_M_ready_28 : decode prog_7_method_19_code 28 = .ok (.iaload, 1) := by decide +kernel
theorem d_M_ready_29 : decode prog_7_method_19_code 29 = .ok (.iconst 1, 1) := by decide +kernel
theorem d_M_ready_30 : decode prog_7_method_19_code 30 = .ok (.iadd, 1) := by decide +kernel
theorem d_M_ready_31 : decode prog_7_method_19_code 31 = .ok (.istore_n 3, 1) := by decide +kernel
theorem d_M_ready_32 : decode prog_7_method_19_code 32 = .ok (.iconst 0, 1) := by decide +kernel
theorem d_M_ready_33 : decode prog_7_method_19_code 33 = .ok (.istore 4, 2) := by decide +kernel
theorem d_M_ready_35 : decode prog_7_method_19_code 35 = .ok (.iload 4, 2) := by decide +kernel
theorem d_M_ready_37 : decode prog_7_method_19_code 37 = .ok (.aload_n 0, 1) := by decide +kernel
theorem d_M_ready_38 : decode prog_7_method_19_code 38 = .ok (.getfield 125, 3) := by decide +kernel
theorem d_M_ready_41 : decode prog_7_method_19_code 41 = .ok (.if_icmp .ge (73), 3) := by decide +kernel
theorem d_M_ready_44 : decode prog_7_method_19_code 44 = .ok (.aload_n 0, 1) := by decide +kernel
theorem d_M_ready_45 : decode prog_7_method_19_code 45 = .ok (.getfield 19, 3) := by decide +kernel
theorem d_M_ready_48 : decode prog_7_method_19_code 48 = .ok (.iload 4, 2) := by decide +kernel
theorem d_M_ready_50 : decode prog_7_method_19_code 50 = .ok (.iaload, 1) := by decide +kernel
theorem d_M_ready_51 : decode prog_7_method_19_code 51 = .ok (.iload_n 1, 1) := by decide +kernel
theorem d_M_ready_52 : decode prog_7_method_19_code 52 = .ok (.if_icmp .ne (47), 3) := by decide +kernel
theorem d_M_ready_55 : decode prog_7_method_19_code 55 = .ok (.aload_n 0, 1) := by decide +kernel
theorem d_M_ready_56 : decode prog_7_method_19_code 56 = .ok (.iload 4, 2) := by decide +kernel
theorem d_M_ready_58 : decode prog_7_method_19_code 58 = .ok (.aload_n 0, 1) := by decide +kernel
theorem d_M_ready_59 : decode prog_7_method_19_code 59 = .ok (.getfield 25, 3) := by decide +kernel
theorem d_M_ready_62 : decode prog_7_method_19_code 62 = .ok (.iload 4, 2) := by decide +kernel
theorem d_M_ready_64 : decode prog_7_method_19_code 64 = .ok (.iaload, 1) := by decide +kernel
theorem d_M_ready_65 : decode prog_7_method_19_code 65 = .ok (.invokevirtual 146, 3) := by decide +kernel
theorem d_M_ready_68 : decode prog_7_method_19_code 68 = .ok (.iload_n 2, 1) := by decide +kernel
theorem d_M_ready_69 : decode prog_7_method_19_code 69 = .ok (.if_icmp .le (27), 3) := by decide +kernel
theorem d_M_ready_72 : decode prog_7_method_19_code 72 = .ok (.aload_n 0, 1) := by decide +kernel
theorem d_M_ready_73 : decode prog_7_method_19_code 73 = .ok (.iload_n 3, 1) := by decide +kernel
theorem d_M_ready_74 : decode prog_7_method_19_code 74 = .ok (.aload_n 0, 1) := by decide +kernel
theorem d_M_ready_75 : decode prog_7_method_19_code 75 = .ok (.iload 4, 2) := by decide +kernel
theorem d_M_ready_77 : decode prog_7_method_19_code 77 = .ok (.aload_n 0, 1) := by decide +kernel
theorem d_M_ready_78 : decode prog_7_method_19_code 78 = .ok (.getfield 25, 3) := by decide +kernel
theorem d_M_ready_81 : decode prog_7_method_19_code 81 = .ok (.iload 4, 2) := by decide +kernel
theorem d_M_ready_83 : decode prog_7_method_19_code 83 = .ok (.iaload, 1) := by decide +kernel
theorem d_M_ready_84 : decode prog_7_method_19_code 84 = .ok (.iload_n 2, 1) := by decide +kernel
theorem d_M_ready_85 : decode prog_7_method_19_code 85 = .ok (.invokevirtual 153, 3) := by decide +kernel
theorem d_M_ready_88 : decode prog_7_method_19_code 88 = .ok (.iconst 1, 1) := by decide +kernel
theorem d_M_ready_89 : decode prog_7_method_19_code 89 = .ok (.iadd, 1) := by decide +kernel
theorem d_M_ready_90 : decode prog_7_method_19_code 90 = .ok (.invokevirtual 157, 3) := by decide +kernel
theorem d_M_ready_93 : decode prog_7_method_19_code 93 = .ok (.goto (5), 3) := by decide +kernel
theorem d_M_ready_96 : decode prog_7_method_19_code 96 = .ok (.ldc 163, 2) := by decide +kernel
theorem d_M_ready_98 : decode prog_7_method_19_code 98 = .ok (.istore_n 3, 1) := by decide +kernel
theorem d_M_ready_99 : decode prog_7_method_19_code 99 = .ok (.iload_n 3, 1) := by decide +kernel
theorem d_M_ready_100 : decode prog_7_method_19_code 100 = .ok (.ldc 163, 2) := by decide +kernel
theorem d_M_ready_102 : decode prog_7_method_19_code 102 = .ok (.if_icmp .ne (6), 3) := by decide +kernel
theorem d_M_ready_105 : decode prog_7_method_19_code 105 = .ok (.ldc 163, 2) := by decide +kernel
theorem d_M_ready_107 : decode prog_7_method_19_code 107 = .ok (.ireturn, 1) := by decide +kernel
theorem d_M_ready_108 : decode prog_7_method_19_code 108 = .ok (.iinc 4 (1), 3) := by decide +kernel
theorem d_M_ready_111 : decode prog_7_method_19_code 111 = .ok (.goto (-76), 3) := by decide +kernel
theorem d_M_ready_114 : decode prog_7_method_19_code 114 = .ok (.iconst 0, 1) := by decide +kernel
theorem d_M_ready_115 : decode prog_7_method_19_code 115 = .ok (.istore 4, 2) := by decide +kernel
theorem d_M_ready_117 : decode prog_7_method_19_code 117 = .ok (.iload 4, 2) := by decide +kernel
theorem d_M_ready_119 : decode prog_7_method_19_code 119 = .ok (.aload_n 0, 1) := by decide +kernel
theorem d_M_ready_120 : decode prog_7_method_19_code 120 = .ok (.getfield 131, 3) := by decide +kernel
theorem d_M_ready_123 : decode prog_7_method_19_code 123 = .ok (.if_icmp .ge (61), 3) := by decide +kernel
theorem d_M_ready_126 : decode prog_7_method_19_code 126 = .ok (.aload_n 0, 1) := by decide +kernel
theorem d_M_ready_127 : decode prog_7_method_19_code 127 = .ok (.getfield 31, 3) := by decide +kernel
theorem d_M_ready_130 : decode prog_7_method_19_code 130 = .ok (.iload 4, 2) := by decide +kernel
theorem d_M_ready_132 : decode prog_7_method_19_code 132 = .ok (.iaload, 1) := by decide +kernel
theorem d_M_ready_133 : decode prog_7_method_19_code 133 = .ok (.iload_n 1, 1) := by decide +kernel
theorem d_M_ready_134 : decode prog_7_method_19_code 134 = .ok (.if_icmp .ne (44), 3) := by decide +kernel
theorem d_M_ready_137 : decode prog_7_method_19_code 137 = .ok (.aload_n 0, 1) := by decide +kernel
theorem d_M_ready_138 : decode prog_7_method_19_code 138 = .ok (.getfield 74, 3) := by decide +kernel
theorem d_M_ready_141 : decode prog_7_method_19_code 141 = .ok (.iload 4, 2) := by decide +kernel
theorem d_M_ready_143 : decode prog_7_method_19_code 143 = .ok (.iaload, 1) := by decide +kernel
theorem d_M_ready_144 : decode prog_7_method_19_code 144 = .ok (.iload_n 2, 1) := by decide +kernel
theorem d_M_ready_145 : decode prog_7_method_19_code 145 = .ok (.if_icmp .le (30), 3) := by decide +kernel
theorem d_M_ready_148 : decode prog_7_method_19_code 148 = .ok (.iload_n 3, 1) := by decide +kernel
theorem d_M_ready_149 : decode prog_7_method_19_code 149 = .ok (.ldc 163, 2) := by decide +kernel
theorem d_M_ready_151 : decode prog_7_method_19_code 151 = .ok (.if_icmp .ge (24), 3) := by decide +kernel
theorem d_M_ready_154 : decode prog_7_method_19_code 154 = .ok (.aload_n 0, 1) := by decide +kernel
theorem d_M_ready_155 : decode prog_7_method_19_code 155 = .ok (.iload_n 3, 1) := by decide +kernel
theorem d_M_ready_156 : decode prog_7_method_19_code 156 = .ok (.aload_n 0, 1) := by decide +kernel
theorem d_M_ready_157 : decode prog_7_method_19_code 157 = .ok (.getfield 71, 3) := by decide +kernel
theorem d_M_ready_160 : decode prog_7_method_19_code 160 = .ok (.sipush (1002), 3) := by decide +kernel
theorem d_M_ready_163 : decode prog_7_method_19_code 163 = .ok (.iload 4, 2) := by decide +kernel
theorem d_M_ready_165 : decode prog_7_method_19_code 165 = .ok (.imul, 1) := by decide +kernel
theorem d_M_ready_166 : decode prog_7_method_19_code 166 = .ok (.iload_n 2, 1) := by decide +kernel
theorem d_M_ready_167 : decode prog_7_method_19_code 167 = .ok (.iadd, 1) := by decide +kernel
theorem d_M_ready_168 : decode prog_7_method_19_code 168 = .ok (.iaload, 1) := by decide +kernel
theorem d_M_ready_169 : decode prog_7_method_19_code 169 = .ok (.invokevirtual 157, 3) := by decide +kernel
theorem d_M_ready_172 : decode prog_7_method_19_code 172 = .ok (.goto (5), 3) := by decide +kernel
theorem d_M_ready_175 : decode prog_7_method_19_code 175 = .ok (.ldc 163, 2) := by decide +kernel
theorem d_M_ready_177 : decode prog_7_method_19_code 177 = .ok (.istore_n 3, 1) := by decide +kernel
theorem d_M_ready_178 : decode prog_7_method_19_code 178 = .ok (.iinc 4 (1), 3) := by decide +kernel
theorem d_M_ready_181 : decode prog_7_method_19_code 181 = .ok (.goto (-64), 3) := by decide +kernel
theorem d_M_ready_184 : decode prog_7_method_19_code 184 = .ok (.iload_n 3, 1) := by decide +kernel
theorem d_M_ready_185 : decode prog_7_method_19_code 185 = .ok (.ireturn, 1) := by decide +kernel
theorem d_M_apply_0 : decode prog_7_method_20_code 0 = .ok (.iload_n 0, 1) := by decide +kernel
theorem d_M_apply_1 : decode prog_7_method_20_code 1 = .ok (.tableswitch (54) 0 3 #[31, 35, 39, 43], 31) := by decide +kernel
theorem d_M_apply_32 : decode prog_7_method_20_code 32 = .ok (.iload_n 1, 1) := by decide +kernel
theorem d_M_apply_33 : decode prog_7_method_20_code 33 = .ok (.iload_n 2, 1) := by decide +kernel
theorem d_M_apply_34 : decode prog_7_method_20_code 34 = .ok (.iadd, 1) := by decide +kernel
theorem d_M_apply_35 : decode prog_7_method_20_code 35 = .ok (.ireturn, 1) := by decide +kernel
theorem d_M_apply_36 : decode prog_7_method_20_code 36 = .ok (.iload_n 1, 1) := by decide +kernel
theorem d_M_apply_37 : decode prog_7_method_20_code 37 = .ok (.iload_n 2, 1) := by decide +kernel
theorem d_M_apply_38 : decode prog_7_method_20_code 38 = .ok (.ixor, 1) := by decide +kernel
theorem d_M_apply_39 : decode prog_7_method_20_code 39 = .ok (.ireturn, 1) := by decide +kernel
theorem d_M_apply_40 : decode prog_7_method_20_code 40 = .ok (.iload_n 1, 1) := by decide +kernel
theorem d_M_apply_41 : decode prog_7_method_20_code 41 = .ok (.iload_n 2, 1) := by decide +kernel
theorem d_M_apply_42 : decode prog_7_method_20_code 42 = .ok (.imul, 1) := by decide +kernel
theorem d_M_apply_43 : decode prog_7_method_20_code 43 = .ok (.ireturn, 1) := by decide +kernel
theorem d_M_apply_44 : decode prog_7_method_20_code 44 = .ok (.iload_n 1, 1) := by decide +kernel
theorem d_M_apply_45 : decode prog_7_method_20_code 45 = .ok (.iload_n 2, 1) := by decide +kernel
theorem d_M_apply_46 : decode prog_7_method_20_code 46 = .ok (.if_icmp .le (7), 3) := by decide +kernel
theorem d_M_apply_49 : decode prog_7_method_20_code 49 = .ok (.iload_n 1, 1) := by decide +kernel
theorem d_M_apply_50 : decode prog_7_method_20_code 50 = .ok (.goto (4), 3) := by decide +kernel
theorem d_M_apply_53 : decode prog_7_method_20_code 53 = .ok (.iload_n 2, 1) := by decide +kernel
theorem d_M_apply_54 : decode prog_7_method_20_code 54 = .ok (.ireturn, 1) := by decide +kernel
theorem d_M_apply_55 : decode prog_7_method_20_code 55 = .ok (.bipush (31), 2) := by decide +kernel
theorem d_M_apply_57 : decode prog_7_method_20_code 57 = .ok (.iload_n 1, 1) := by decide +kernel
theorem d_M_apply_58 : decode prog_7_method_20_code 58 = .ok (.imul, 1) := by decide +kernel
theorem d_M_apply_59 : decode prog_7_method_20_code 59 = .ok (.iload_n 2, 1) := by decide +kernel
theorem d_M_apply_60 : decode prog_7_method_20_code 60 = .ok (.iadd, 1) := by decide +kernel
theorem d_M_apply_61 : decode prog_7_method_20_code 61 = .ok (.ireturn, 1) := by decide +kernel
theorem d_M_result_0 : decode prog_7_method_21_code 0 = .ok (.aload_n 0, 1) := by decide +kernel
theorem d_M_result_1 : decode prog_7_method_21_code 1 = .ok (.getfield 13, 3) := by decide +kernel
theorem d_M_result_4 : decode prog_7_method_21_code 4 = .ok (.iload_n 1, 1) := by decide +kernel
theorem d_M_result_5 : decode prog_7_method_21_code 5 = .ok (.iaload, 1) := by decide +kernel
theorem d_M_result_6 : decode prog_7_method_21_code 6 = .ok (.istore_n 3, 1) := by decide +kernel
theorem d_M_result_7 : decode prog_7_method_21_code 7 = .ok (.iconst 0, 1) := by decide +kernel
theorem d_M_result_8 : decode prog_7_method_21_code 8 = .ok (.istore 4, 2) := by decide +kernel
theorem d_M_result_10 : decode prog_7_method_21_code 10 = .ok (.iload 4, 2) := by decide +kernel
theorem d_M_result_12 : decode prog_7_method_21_code 12 = .ok (.aload_n 0, 1) := by decide +kernel
theorem d_M_result_13 : decode prog_7_method_21_code 13 = .ok (.getfield 128, 3) := by decide +kernel
theorem d_M_result_16 : decode prog_7_method_21_code 16 = .ok (.if_icmp .ge (139), 3) := by decide +kernel
theorem d_M_result_19 : decode prog_7_method_21_code 19 = .ok (.iconst 0, 1) := by decide +kernel
theorem d_M_result_20 : decode prog_7_method_21_code 20 = .ok (.istore 5, 2) := by decide +kernel
theorem d_M_result_22 : decode prog_7_method_21_code 22 = .ok (.iload 5, 2) := by decide +kernel
theorem d_M_result_24 : decode prog_7_method_21_code 24 = .ok (.aload_n 0, 1) := by decide +kernel
theorem d_M_result_25 : decode prog_7_method_21_code 25 = .ok (.getfield 125, 3) := by decide +kernel
theorem d_M_result_28 : decode prog_7_method_21_code 28 = .ok (.if_icmp .ge (56), 3) := by decide +kernel
theorem d_M_result_31 : decode prog_7_method_21_code 31 = .ok (.aload_n 0, 1) := by decide +kernel
theorem d_M_result_32 : decode prog_7_method_21_code 32 = .ok (.getfield 28, 3) := by decide +kernel
theorem d_M_result_35 : decode prog_7_method_21_code 35 = .ok (.iload 5, 2) := by decide +kernel
theorem d_M_result_37 : decode prog_7_method_21_code 37 = .ok (.iaload, 1) := by decide +kernel
theorem d_M_result_38 : decode prog_7_method_21_code 38 = .ok (.iload 4, 2) := by decide +kernel
theorem d_M_result_40 : decode prog_7_method_21_code 40 = .ok (.if_icmp .ne (38), 3) := by decide +kernel
theorem d_M_result_43 : decode prog_7_method_21_code 43 = .ok (.aload_n 0, 1) := by decide +kernel
theorem d_M_result_44 : decode prog_7_method_21_code 44 = .ok (.getfield 19, 3) := by decide +kernel
theorem d_M_result_47 : decode prog_7_method_21_code 47 = .ok (.iload 5, 2) := by decide +kernel
theorem d_M_result_49 : decode prog_7_method_21_code 49 = .ok (.iaload, 1) := by decide +kernel
theorem d_M_result_50 : decode prog_7_method_21_code 50 = .ok (.iload_n 1, 1) := by decide +kernel
theorem d_M_result_51 : decode prog_7_method_21_code 51 = .ok (.if_icmp .ne (27), 3) := by decide +kernel
theorem d_M_result_54 : decode prog_7_method_21_code 54 = .ok (.aload_n 0, 1) := by decide +kernel
theorem d_M_result_55 : decode prog_7_method_21_code 55 = .ok (.getfield 7, 3) := by decide +kernel
theorem d_M_result_58 : decode prog_7_method_21_code 58 = .ok (.iload_n 1, 1) := by decide +kernel
theorem d_M_result_59 : decode prog_7_method_21_code 59 = .ok (.iaload, 1) := by decide +kernel
theorem d_M_result_60 : decode prog_7_method_21_code 60 = .ok (.iload_n 3, 1) := by decide +kernel
theorem d_M_result_61 : decode prog_7_method_21_code 61 = .ok (.aload_n 0, 1) := by decide +kernel
theorem d_M_result_62 : decode prog_7_method_21_code 62 = .ok (.getfield 46, 3) := by decide +kernel
theorem d_M_result_65 : decode prog_7_method_21_code 65 = .ok (.sipush (1002), 3) := by decide +kernel
theorem d_M_result_68 : decode prog_7_method_21_code 68 = .ok (.iload 5, 2) := by decide +kernel
theorem d_M_result_70 : decode prog_7_method_21_code 70 = .ok (.imul, 1) := by decide +kernel
theorem d_M_result_71 : decode prog_7_method_21_code 71 = .ok (.iload_n 2, 1) := by decide +kernel
theorem d_M_result_72 : decode prog_7_method_21_code 72 = .ok (.iadd, 1) := by decide +kernel
theorem d_M_result_73 : decode prog_7_method_21_code 73 = .ok (.iaload, 1) := by decide +kernel
theorem d_M_result_74 : decode prog_7_method_21_code 74 = .ok (.invokestatic 164, 3) := by decide +kernel
theorem d_M_result_77 : decode prog_7_method_21_code 77 = .ok (.istore_n 3, 1) := by decide +kernel
theorem d_M_result_78 : decode prog_7_method_21_code 78 = .ok (.iinc 5 (1), 3) := by decide +kernel
theorem d_M_result_81 : decode prog_7_method_21_code 81 = .ok (.goto (-59), 3) := by decide +kernel
theorem d_M_result_84 : decode prog_7_method_21_code 84 = .ok (.iconst 0, 1) := by decide +kernel
theorem d_M_result_85 : decode prog_7_method_21_code 85 = .ok (.istore 5, 2) := by decide +kernel
theorem d_M_result_87 : decode prog_7_method_21_code 87 = .ok (.iload 5, 2) := by decide +kernel
theorem d_M_result_89 : decode prog_7_method_21_code 89 = .ok (.aload_n 0, 1) := by decide +kernel
theorem d_M_result_90 : decode prog_7_method_21_code 90 = .ok (.getfield 131, 3) := by decide +kernel
theorem d_M_result_93 : decode prog_7_method_21_code 93 = .ok (.if_icmp .ge (56), 3) := by decide +kernel
theorem d_M_result_96 : decode prog_7_method_21_code 96 = .ok (.aload_n 0, 1) := by decide +kernel
theorem d_M_result_97 : decode prog_7_method_21_code 97 = .ok (.getfield 34, 3) := by decide +kernel
theorem d_M_result_100 : decode prog_7_method_21_code 100 = .ok (.iload 5, 2) := by decide +kernel
theorem d_M_result_102 : decode prog_7_method_21_code 102 = .ok (.iaload, 1) := by decide +kernel
theorem d_M_result_103 : decode prog_7_method_21_code 103 = .ok (.iload 4, 2) := by decide +kernel
theorem d_M_result_105 : decode prog_7_method_21_code 105 = .ok (.if_icmp .ne (38), 3) := by decide +kernel
theorem d_M_result_108 : decode prog_7_method_21_code 108 = .ok (.aload_n 0, 1) := by decide +kernel
theorem d_M_result_109 : decode prog_7_method_21_code 109 = .ok (.getfield 31, 3) := by decide +kernel
theorem d_M_result_112 : decode prog_7_method_21_code 112 = .ok (.iload 5, 2) := by decide +kernel
theorem d_M_result_114 : decode prog_7_method_21_code 114 = .ok (.iaload, 1) := by decide +kernel
theorem d_M_result_115 : decode prog_7_method_21_code 115 = .ok (.iload_n 1, 1) := by decide +kernel
theorem d_M_result_116 : decode prog_7_method_21_code 116 = .ok (.if_icmp .ne (27), 3) := by decide +kernel
theorem d_M_result_119 : decode prog_7_method_21_code 119 = .ok (.aload_n 0, 1) := by decide +kernel
theorem d_M_result_120 : decode prog_7_method_21_code 120 = .ok (.getfield 7, 3) := by decide +kernel
theorem d_M_result_123 : decode prog_7_method_21_code 123 = .ok (.iload_n 1, 1) := by decide +kernel
theorem d_M_result_124 : decode prog_7_method_21_code 124 = .ok (.iaload, 1) := by decide +kernel
theorem d_M_result_125 : decode prog_7_method_21_code 125 = .ok (.iload_n 3, 1) := by decide +kernel
theorem d_M_result_126 : decode prog_7_method_21_code 126 = .ok (.aload_n 0, 1) := by decide +kernel
theorem d_M_result_127 : decode prog_7_method_21_code 127 = .ok (.getfield 68, 3) := by decide +kernel
theorem d_M_result_130 : decode prog_7_method_21_code 130 = .ok (.sipush (1002), 3) := by decide +kernel
theorem d_M_result_133 : decode prog_7_method_21_code 133 = .ok (.iload 5, 2) := by decide +kernel
theorem d_M_result_135 : decode prog_7_method_21_code 135 = .ok (.imul, 1) := by decide +kernel
theorem d_M_result_136 : decode prog_7_method_21_code 136 = .ok (.iload_n 2, 1) := by decide +kernel
theorem d_M_result_137 : decode prog_7_method_21_code 137 = .ok (.iadd, 1) := by decide +kernel
theorem d_M_result_138 : decode prog_7_method_21_code 138 = .ok (.iaload, 1) := by decide +kernel
theorem d_M_result_139 : decode prog_7_method_21_code 139 = .ok (.invokestatic 164, 3) := by decide +kernel
theorem d_M_result_142 : decode prog_7_method_21_code 142 = .ok (.istore_n 3, 1) := by decide +kernel
theorem d_M_result_143 : decode prog_7_method_21_code 143 = .ok (.iinc 5 (1), 3) := by decide +kernel
theorem d_M_result_146 : decode prog_7_method_21_code 146 = .ok (.goto (-59), 3) := by decide +kernel
theorem d_M_result_149 : decode prog_7_method_21_code 149 = .ok (.iinc 4 (1), 3) := by decide +kernel
theorem d_M_result_152 : decode prog_7_method_21_code 152 = .ok (.goto (-142), 3) := by decide +kernel
theorem d_M_result_155 : decode prog_7_method_21_code 155 = .ok (.iload_n 3, 1) := by decide +kernel
theorem d_M_result_156 : decode prog_7_method_21_code 156 = .ok (.ireturn, 1) := by decide +kernel
theorem d_M_give_0 : decode prog_7_method_22_code 0 = .ok (.aload_n 0, 1) := by decide +kernel
theorem d_M_give_1 : decode prog_7_method_22_code 1 = .ok (.getfield 65, 3) := by decide +kernel
theorem d_M_give_4 : decode prog_7_method_22_code 4 = .ok (.aload_n 0, 1) := by decide +kernel
theorem d_M_give_5 : decode prog_7_method_22_code 5 = .ok (.getfield 16, 3) := by decide +kernel
theorem d_M_give_8 : decode prog_7_method_22_code 8 = .ok (.iload_n 1, 1) := by decide +kernel
theorem d_M_give_9 : decode prog_7_method_22_code 9 = .ok (.iaload, 1) := by decide +kernel
theorem d_M_give_10 : decode prog_7_method_22_code 10 = .ok (.iaload, 1) := by decide +kernel
theorem d_M_give_11 : decode prog_7_method_22_code 11 = .ok (.istore 4, 2) := by decide +kernel
theorem d_M_give_13 : decode prog_7_method_22_code 13 = .ok (.aload_n 0, 1) := by decide +kernel
theorem d_M_give_14 : decode prog_7_method_22_code 14 = .ok (.getfield 59, 3) := by decide +kernel
theorem d_M_give_17 : decode prog_7_method_22_code 17 = .ok (.iload_n 1, 1) := by decide +kernel
theorem d_M_give_18 : decode prog_7_method_22_code 18 = .ok (.iaload, 1) := by decide +kernel
theorem d_M_give_19 : decode prog_7_method_22_code 19 = .ok (.iload 4, 2) := by decide +kernel
theorem d_M_give_21 : decode prog_7_method_22_code 21 = .ok (.if_icmp .gt (21), 3) := by decide +kernel
theorem d_M_give_24 : decode prog_7_method_22_code 24 = .ok (.iload 4, 2) := by decide +kernel
theorem d_M_give_26 : decode prog_7_method_22_code 26 = .ok (.ifCond .le (18), 3) := by decide +kernel
theorem d_M_give_29 : decode prog_7_method_22_code 29 = .ok (.aload_n 0, 1) := by decide +kernel
theorem d_M_give_30 : decode prog_7_method_22_code 30 = .ok (.iload_n 1, 1) := by decide +kernel
theorem d_M_give_31 : decode prog_7_method_22_code 31 = .ok (.iconst 0, 1) := by decide +kernel
theorem d_M_give_32 : decode prog_7_method_22_code 32 = .ok (.invokevirtual 150, 3) := by decide +kernel
theorem d_M_give_35 : decode prog_7_method_22_code 35 = .ok (.iload 4, 2) := by decide +kernel
theorem d_M_give_37 : decode prog_7_method_22_code 37 = .ok (.iconst 1, 1) := by decide +kernel
theorem d_M_give_38 : decode prog_7_method_22_code 38 = .ok (.isub, 1) := by decide +kernel
theorem d_M_give_39 : decode prog_7_method_22_code 39 = .ok (.if_icmp .gt (5), 3) := by decide +kernel
theorem d_M_give_42 : decode prog_7_method_22_code 42 = .ok (.iconst 0, 1) := by decide +kernel
theorem d_M_give_43 : decode prog_7_method_22_code 43 = .ok (.ireturn, 1) := by decide +kernel
theorem d_M_give_44 : decode prog_7_method_22_code 44 = .ok (.iload 4, 2) := by decide +kernel
theorem d_M_give_46 : decode prog_7_method_22_code 46 = .ok (.ifCond .le (23), 3) := by decide +kernel
theorem d_M_give_49 : decode prog_7_method_22_code 49 = .ok (.aload_n 0, 1) := by decide +kernel
theorem d_M_give_50 : decode prog_7_method_22_code 50 = .ok (.iload_n 2, 1) := by decide +kernel
theorem d_M_give_51 : decode prog_7_method_22_code 51 = .ok (.aload_n 0, 1) := by decide +kernel
theorem d_M_give_52 : decode prog_7_method_22_code 52 = .ok (.iload_n 1, 1) := by decide +kernel
theorem d_M_give_53 : decode prog_7_method_22_code 53 = .ok (.iconst 0, 1) := by decide +kernel
theorem d_M_give_54 : decode prog_7_method_22_code 54 = .ok (.iload 4, 2) := by decide +kernel
theorem d_M_give_56 : decode prog_7_method_22_code 56 = .ok (.iconst 1, 1) := by decide +kernel
theorem d_M_give_57 : decode prog_7_method_22_code 57 = .ok (.isub, 1) := by decide +kernel
theorem d_M_give_58 : decode prog_7_method_22_code 58 = .ok (.invokevirtual 160, 3) := by decide +kernel
theorem d_M_give_61 : decode prog_7_method_22_code 61 = .ok (.iconst 1, 1) := by decide +kernel
theorem d_M_give_62 : decode prog_7_method_22_code 62 = .ok (.iadd, 1) := by decide +kernel
theorem d_M_give_63 : decode prog_7_method_22_code 63 = .ok (.invokevirtual 157, 3) := by decide +kernel
theorem d_M_give_66 : decode prog_7_method_22_code 66 = .ok (.goto (4), 3) := by decide +kernel
theorem d_M_give_69 : decode prog_7_method_22_code 69 = .ok (.iload_n 2, 1) := by decide +kernel
theorem d_M_give_70 : decode prog_7_method_22_code 70 = .ok (.istore 5, 2) := by decide +kernel
theorem d_M_give_72 : decode prog_7_method_22_code 72 = .ok (.iload 5, 2) := by decide +kernel
theorem d_M_give_74 : decode prog_7_method_22_code 74 = .ok (.iload_n 3, 1) := by decide +kernel
theorem d_M_give_75 : decode prog_7_method_22_code 75 = .ok (.if_icmp .le (5), 3) := by decide +kernel
theorem d_M_give_78 : decode prog_7_method_22_code 78 = .ok (.iconst 0, 1) := by decide +kernel
theorem d_M_give_79 : decode prog_7_method_22_code 79 = .ok (.ireturn, 1) := by decide +kernel
theorem d_M_give_80 : decode prog_7_method_22_code 80 = .ok (.aload_n 0, 1) := by decide +kernel
theorem d_M_give_81 : decode prog_7_method_22_code 81 = .ok (.getfield 56, 3) := by decide +kernel
theorem d_M_give_84 : decode prog_7_method_22_code 84 = .ok (.sipush (1002), 3) := by decide +kernel
theorem d_M_give_87 : decode prog_7_method_22_code 87 = .ok (.iload_n 1, 1) := by decide +kernel
theorem d_M_give_88 : decode prog_7_method_22_code 88 = .ok (.imul, 1) := by decide +kernel
theorem d_M_give_89 : decode prog_7_method_22_code 89 = .ok (.iload 4, 2) := by decide +kernel
theorem d_M_give_91 : decode prog_7_method_22_code 91 = .ok (.iadd, 1) := by decide +kernel
theorem d_M_give_92 : decode prog_7_method_22_code 92 = .ok (.iload 5, 2) := by decide +kernel
theorem d_M_give_94 : decode prog_7_method_22_code 94 = .ok (.iastore, 1) := by decide +kernel
theorem d_M_give_95 : decode prog_7_method_22_code 95 = .ok (.aload_n 0, 1) := by decide +kernel
theorem d_M_give_96 : decode prog_7_method_22_code 96 = .ok (.getfield 46, 3) := by decide +kernel
theorem d_M_give_99 : decode prog_7_method_22_code 99 = .ok (.sipush (1002), 3) := by decide +kernel
theorem d_M_give_102 : decode prog_7_method_22_code 102 = .ok (.iload_n 1, 1) := by decide +kernel
theorem d_M_give_103 : decode prog_7_method_22_code 103 = .ok (.imul, 1) := by decide +kernel
theorem d_M_give_104 : decode prog_7_method_22_code 104 = .ok (.iload 4, 2) := by decide +kernel
theorem d_M_give_106 : decode prog_7_method_22_code 106 = .ok (.iadd, 1) := by decide +kernel
theorem d_M_give_107 : decode prog_7_method_22_code 107 = .ok (.iconst 1, 1) := by decide +kernel
theorem d_M_give_108 : decode prog_7_method_22_code 108 = .ok (.iadd, 1) := by decide +kernel
theorem d_M_give_109 : decode prog_7_method_22_code 109 = .ok (.aload_n 0, 1) := by decide +kernel
theorem d_M_give_110 : decode prog_7_method_22_code 110 = .ok (.aload_n 0, 1) := by decide +kernel
theorem d_M_give_111 : decode prog_7_method_22_code 111 = .ok (.getfield 16, 3) := by decide +kernel
theorem d_M_give_114 : decode prog_7_method_22_code 114 = .ok (.iload_n 1, 1) := by decide +kernel
theorem d_M_give_115 : decode prog_7_method_22_code 115 = .ok (.iaload, 1) := by decide +kernel
theorem d_M_give_116 : decode prog_7_method_22_code 116 = .ok (.iload 4, 2) := by decide +kernel
theorem d_M_give_118 : decode prog_7_method_22_code 118 = .ok (.invokevirtual 167, 3) := by decide +kernel
theorem d_M_give_121 : decode prog_7_method_22_code 121 = .ok (.iastore, 1) := by decide +kernel
theorem d_M_give_122 : decode prog_7_method_22_code 122 = .ok (.aload_n 0, 1) := by decide +kernel
theorem d_M_give_123 : decode prog_7_method_22_code 123 = .ok (.getfield 59, 3) := by decide +kernel
theorem d_M_give_126 : decode prog_7_method_22_code 126 = .ok (.iload_n 1, 1) := by decide +kernel
theorem d_M_give_127 : decode prog_7_method_22_code 127 = .ok (.iload 4, 2) := by decide +kernel
theorem d_M_give_129 : decode prog_7_method_22_code 129 = .ok (.iconst 1, 1) := by decide +kernel
theorem d_M_give_130 : decode prog_7_method_22_code 130 = .ok (.iadd, 1) := by decide +kernel
theorem d_M_give_131 : decode prog_7_method_22_code 131 = .ok (.iastore, 1) := by decide +kernel
theorem d_M_give_132 : decode prog_7_method_22_code 132 = .ok (.iconst 1, 1) := by decide +kernel
theorem d_M_give_133 : decode prog_7_method_22_code 133 = .ok (.ireturn, 1) := by decide +kernel
