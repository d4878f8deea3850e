theorem d_M_giveOut_0 : decode prog_7_method_23_code 0 = .ok (.aload_n 0, 1) := by decide +kernel
theorem d_M_giveOut_1 : decode prog_7_method_23_code 1 = .ok (.getfield 65, 3) := by decide +kernel
theorem d_M_giveOut_4 : decode prog_7_method_23_code 4 = .ok (.aload_n 0, 1) := by decide +kernel
theorem d_M_giveOut_5 : decode prog_7_method_23_code 5 = .ok (.getfield 37, 3) := by decide +kernel
theorem d_M_giveOut_8 : decode prog_7_method_23_code 8 = .ok (.iload_n 1, 1) := by decide +kernel
theorem d_M_giveOut_9 : decode prog_7_method_23_code 9 = .ok (.iaload, 1) := by decide +kernel
theorem d_M_giveOut_10 : decode prog_7_method_23_code 10 = .ok (.iaload, 1) := by decide +kernel
theorem d_M_giveOut_11 : decode prog_7_method_23_code 11 = .ok (.istore 4, 2) := by decide +kernel
theorem d_M_giveOut_13 : decode prog_7_method_23_code 13 = .ok (.aload_n 0, 1) := by decide +kernel
theorem d_M_giveOut_14 : decode prog_7_method_23_code 14 = .ok (.getfield 83, 3) := by decide +kernel
theorem d_M_giveOut_17 : decode prog_7_method_23_code 17 = .ok (.iload_n 1, 1) := by decide +kernel
theorem d_M_giveOut_18 : decode prog_7_method_23_code 18 = .ok (.iaload, 1) := by decide +kernel
theorem d_M_giveOut_19 : decode prog_7_method_23_code 19 = .ok (.iload 4, 2) := by decide +kernel
theorem d_M_giveOut_21 : decode prog_7_method_23_code 21 = .ok (.if_icmp .le (5), 3) := by decide +kernel
theorem d_M_giveOut_24 : decode prog_7_method_23_code 24 = .ok (.iconst 0, 1) := by decide +kernel
theorem d_M_giveOut_25 : decode prog_7_method_23_code 25 = .ok (.ireturn, 1) := by decide +kernel
theorem d_M_giveOut_26 : decode prog_7_method_23_code 26 = .ok (.iload_n 2, 1) := by decide +kernel
theorem d_M_giveOut_27 : decode prog_7_method_23_code 27 = .ok (.istore 5, 2) := by decide +kernel
theorem d_M_giveOut_29 : decode prog_7_method_23_code 29 = .ok (.iload 5, 2) := by decide +kernel
theorem d_M_giveOut_31 : decode prog_7_method_23_code 31 = .ok (.iload_n 3, 1) := by decide +kernel
theorem d_M_giveOut_32 : decode prog_7_method_23_code 32 = .ok (.if_icmp .gt (24), 3) := by decide +kernel
theorem d_M_giveOut_35 : decode prog_7_method_23_code 35 = .ok (.aload_n 0, 1) := by decide +kernel
theorem d_M_giveOut_36 : decode prog_7_method_23_code 36 = .ok (.getfield 43, 3) := by decide +kernel
theorem d_M_giveOut_39 : decode prog_7_method_23_code 39 = .ok (.iload 5, 2) := by decide +kernel
theorem d_M_giveOut_41 : decode prog_7_method_23_code 41 = .ok (.iaload, 1) := by decide +kernel
theorem d_M_giveOut_42 : decode prog_7_method_23_code 42 = .ok (.iload_n 1, 1) := by decide +kernel
theorem d_M_giveOut_43 : decode prog_7_method_23_code 43 = .ok (.ishr, 1) := by decide +kernel
theorem d_M_giveOut_44 : decode prog_7_method_23_code 44 = .ok (.iconst 1, 1) := by decide +kernel
theorem d_M_giveOut_45 : decode prog_7_method_23_code 45 = .ok (.iand, 1) := by decide +kernel
theorem d_M_giveOut_46 : decode prog_7_method_23_code 46 = .ok (.iconst 1, 1) := by decide +kernel
theorem d_M_giveOut_47 : decode prog_7_method_23_code 47 = .ok (.if_icmp .ne (9), 3) := by decide +kernel
theorem d_M_giveOut_50 : decode prog_7_method_23_code 50 = .ok (.iinc 5 (1), 3) := by decide +kernel
theorem d_M_giveOut_53 : decode prog_7_method_23_code 53 = .ok (.goto (-24), 3) := by decide +kernel
theorem d_M_giveOut_56 : decode prog_7_method_23_code 56 = .ok (.iload 5, 2) := by decide +kernel
theorem d_M_giveOut_58 : decode prog_7_method_23_code 58 = .ok (.iload_n 3, 1) := by decide +kernel
theorem d_M_giveOut_59 : decode prog_7_method_23_code 59 = .ok (.if_icmp .le (5), 3) := by decide +kernel
theorem d_M_giveOut_62 : decode prog_7_method_23_code 62 = .ok (.iconst 0, 1) := by decide +kernel
theorem d_M_giveOut_63 : decode prog_7_method_23_code 63 = .ok (.ireturn, 1) := by decide +kernel
theorem d_M_giveOut_64 : decode prog_7_method_23_code 64 = .ok (.aload_n 0, 1) := by decide +kernel
theorem d_M_giveOut_65 : decode prog_7_method_23_code 65 = .ok (.getfield 80, 3) := by decide +kernel
theorem d_M_giveOut_68 : decode prog_7_method_23_code 68 = .ok (.sipush (1002), 3) := by decide +kernel
theorem d_M_giveOut_71 : decode prog_7_method_23_code 71 = .ok (.iload_n 1, 1) := by decide +kernel
theorem d_M_giveOut_72 : decode prog_7_method_23_code 72 = .ok (.imul, 1) := by decide +kernel
theorem d_M_giveOut_73 : decode prog_7_method_23_code 73 = .ok (.iload 4, 2) := by decide +kernel
theorem d_M_giveOut_75 : decode prog_7_method_23_code 75 = .ok (.iadd, 1) := by decide +kernel
theorem d_M_giveOut_76 : decode prog_7_method_23_code 76 = .ok (.iload 5, 2) := by decide +kernel
theorem d_M_giveOut_78 : decode prog_7_method_23_code 78 = .ok (.iastore, 1) := by decide +kernel
theorem d_M_giveOut_79 : decode prog_7_method_23_code 79 = .ok (.aload_n 0, 1) := by decide +kernel
theorem d_M_giveOut_80 : decode prog_7_method_23_code 80 = .ok (.getfield 77, 3) := by decide +kernel
theorem d_M_giveOut_83 : decode prog_7_method_23_code 83 = .ok (.sipush (1002), 3) := by decide +kernel
theorem d_M_giveOut_86 : decode prog_7_method_23_code 86 = .ok (.iload_n 1, 1) := by decide +kernel
theorem d_M_giveOut_87 : decode prog_7_method_23_code 87 = .ok (.imul, 1) := by decide +kernel
theorem d_M_giveOut_88 : decode prog_7_method_23_code 88 = .ok (.iload 4, 2) := by decide +kernel
theorem d_M_giveOut_90 : decode prog_7_method_23_code 90 = .ok (.iadd, 1) := by decide +kernel
theorem d_M_giveOut_91 : decode prog_7_method_23_code 91 = .ok (.aload_n 0, 1) := by decide +kernel
theorem d_M_giveOut_92 : decode prog_7_method_23_code 92 = .ok (.aload_n 0, 1) := by decide +kernel
theorem d_M_giveOut_93 : decode prog_7_method_23_code 93 = .ok (.getfield 37, 3) := by decide +kernel
theorem d_M_giveOut_96 : decode prog_7_method_23_code 96 = .ok (.iload_n 1, 1) := by decide +kernel
theorem d_M_giveOut_97 : decode prog_7_method_23_code 97 = .ok (.iaload, 1) := by decide +kernel
theorem d_M_giveOut_98 : decode prog_7_method_23_code 98 = .ok (.iload 4, 2) := by decide +kernel
theorem d_M_giveOut_100 : decode prog_7_method_23_code 100 = .ok (.invokevirtual 167, 3) := by decide +kernel
theorem d_M_giveOut_103 : decode prog_7_method_23_code 103 = .ok (.iastore, 1) := by decide +kernel
theorem d_M_giveOut_104 : decode prog_7_method_23_code 104 = .ok (.aload_n 0, 1) := by decide +kernel
theorem d_M_giveOut_105 : decode prog_7_method_23_code 105 = .ok (.getfield 83, 3) := by decide +kernel
theorem d_M_giveOut_108 : decode prog_7_method_23_code 108 = .ok (.iload_n 1, 1) := by decide +kernel
theorem d_M_giveOut_109 : decode prog_7_method_23_code 109 = .ok (.iload 4, 2) := by decide +kernel
theorem d_M_giveOut_111 : decode prog_7_method_23_code 111 = .ok (.iconst 1, 1) := by decide +kernel
theorem d_M_giveOut_112 : decode prog_7_method_23_code 112 = .ok (.iadd, 1) := by decide +kernel
theorem d_M_giveOut_113 : decode prog_7_method_23_code 113 = .ok (.iastore, 1) := by decide +kernel
theorem d_M_giveOut_114 : decode prog_7_method_23_code 114 = .ok (.iconst 1, 1) := by decide +kernel
theorem d_M_giveOut_115 : decode prog_7_method_23_code 115 = .ok (.ireturn, 1) := by decide +kernel
theorem d_M_work_0 : decode prog_7_method_24_code 0 = .ok (.aload_n 0, 1) := by decide +kernel
theorem d_M_work_1 : decode prog_7_method_24_code 1 = .ok (.iload_n 1, 1) := by decide +kernel
theorem d_M_work_2 : decode prog_7_method_24_code 2 = .ok (.invokevirtual 170, 3) := by decide +kernel
theorem d_M_work_5 : decode prog_7_method_24_code 5 = .ok (.istore_n 3, 1) := by decide +kernel
theorem d_M_work_6 : decode prog_7_method_24_code 6 = .ok (.iload_n 3, 1) := by decide +kernel
theorem d_M_work_7 : decode prog_7_method_24_code 7 = .ok (.iload_n 2, 1) := by decide +kernel
theorem d_M_work_8 : decode prog_7_method_24_code 8 = .ok (.if_icmp .le (5), 3) := by decide +kernel
theorem d_M_work_11 : decode prog_7_method_24_code 11 = .ok (.iconst 0, 1) := by decide +kernel
theorem d_M_work_12 : decode prog_7_method_24_code 12 = .ok (.ireturn, 1) := by decide +kernel
theorem d_M_work_13 : decode prog_7_method_24_code 13 = .ok (.iconst 0, 1) := by decide +kernel
theorem d_M_work_14 : decode prog_7_method_24_code 14 = .ok (.istore 4, 2) := by decide +kernel
theorem d_M_work_16 : decode prog_7_method_24_code 16 = .ok (.aload_n 0, 1) := by decide +kernel
theorem d_M_work_17 : decode prog_7_method_24_code 17 = .ok (.getfield 65, 3) := by decide +kernel
theorem d_M_work_20 : decode prog_7_method_24_code 20 = .ok (.iload_n 1, 1) := by decide +kernel
theorem d_M_work_21 : decode prog_7_method_24_code 21 = .ok (.iaload, 1) := by decide +kernel
theorem d_M_work_22 : decode prog_7_method_24_code 22 = .ok (.istore 5, 2) := by decide +kernel
theorem d_M_work_24 : decode prog_7_method_24_code 24 = .ok (.iload_n 3, 1) := by decide +kernel
theorem d_M_work_25 : decode prog_7_method_24_code 25 = .ok (.istore 6, 2) := by decide +kernel
theorem d_M_work_27 : decode prog_7_method_24_code 27 = .ok (.iconst 1, 1) := by decide +kernel
theorem d_M_work_28 : decode prog_7_method_24_code 28 = .ok (.istore 7, 2) := by decide +kernel
theorem d_M_work_30 : decode prog_7_method_24_code 30 = .ok (.iconst 0, 1) := by decide +kernel
theorem d_M_work_31 : decode prog_7_method_24_code 31 = .ok (.istore 8, 2) := by decide +kernel
theorem d_M_work_33 : decode prog_7_method_24_code 33 = .ok (.iload 8, 2) := by decide +kernel
theorem d_M_work_35 : decode prog_7_method_24_code 35 = .ok (.aload_n 0, 1) := by decide +kernel
theorem d_M_work_36 : decode prog_7_method_24_code 36 = .ok (.getfield 125, 3) := by decide +kernel
theorem d_M_work_39 : decode prog_7_method_24_code 39 = .ok (.if_icmp .ge (106), 3) := by decide +kernel
theorem d_M_work_42 : decode prog_7_method_24_code 42 = .ok (.aload_n 0, 1) := by decide +kernel
theorem d_M_work_43 : decode prog_7_method_24_code 43 = .ok (.getfield 16, 3) := by decide +kernel
theorem d_M_work_46 : decode prog_7_method_24_code 46 = .ok (.iload 8, 2) := by decide +kernel
theorem d_M_work_48 : decode prog_7_method_24_code 48 = .ok (.iaload, 1) := by decide +kernel
theorem d_M_work_49 : decode prog_7_method_24_code 49 = .ok (.iload_n 1, 1) := by decide +kernel
theorem d_M_work_50 : decode prog_7_method_24_code 50 = .ok (.if_icmp .ne (89), 3) := by decide +kernel
theorem d_M_work_53 : decode prog_7_method_24_code 53 = .ok (.aload_n 0, 1) := by decide +kernel
theorem d_M_work_54 : decode prog_7_method_24_code 54 = .ok (.iload 8, 2) := by decide +kernel
theorem d_M_work_56 : decode prog_7_method_24_code 56 = .ok (.iload_n 3, 1) := by decide +kernel
theorem d_M_work_57 : decode prog_7_method_24_code 57 = .ok (.iload_n 2, 1) := by decide +kernel
theorem d_M_work_58 : decode prog_7_method_24_code 58 = .ok (.invokevirtual 174, 3) := by decide +kernel
theorem d_M_work_61 : decode prog_7_method_24_code 61 = .ok (.ifCond .ne (8), 3) := by decide +kernel
theorem d_M_work_64 : decode prog_7_method_24_code 64 = .ok (.iload 4, 2) := by decide +kernel
theorem d_M_work_66 : decode prog_7_method_24_code 66 = .ok (.ifCond .eq (7), 3) := by decide +kernel
theorem d_M_work_69 : decode prog_7_method_24_code 69 = .ok (.iconst 1, 1) := by decide +kernel
theorem d_M_work_70 : decode prog_7_method_24_code 70 = .ok (.goto (4), 3) := by decide +kernel
theorem d_M_work_73 : decode prog_7_method_24_code 73 = .ok (.iconst 0, 1) := by decide +kernel
theorem d_M_work_74 : decode prog_7_method_24_code 74 = .ok (.istore 4, 2) := by decide +kernel
theorem d_M_work_76 : decode prog_7_method_24_code 76 = .ok (.iload 7, 2) := by decide +kernel
theorem d_M_work_78 : decode prog_7_method_24_code 78 = .ok (.ifCond .eq (19), 3) := by decide +kernel
theorem d_M_work_81 : decode prog_7_method_24_code 81 = .ok (.aload_n 0, 1) := by decide +kernel
theorem d_M_work_82 : decode prog_7_method_24_code 82 = .ok (.getfield 59, 3) := by decide +kernel
theorem d_M_work_85 : decode prog_7_method_24_code 85 = .ok (.iload 8, 2) := by decide +kernel
theorem d_M_work_87 : decode prog_7_method_24_code 87 = .ok (.iaload, 1) := by decide +kernel
theorem d_M_work_88 : decode prog_7_method_24_code 88 = .ok (.iload 5, 2) := by decide +kernel
theorem d_M_work_90 : decode prog_7_method_24_code 90 = .ok (.if_icmp .le (7), 3) := by decide +kernel
theorem d_M_work_93 : decode prog_7_method_24_code 93 = .ok (.iconst 1, 1) := by decide +kernel
theorem d_M_work_94 : decode prog_7_method_24_code 94 = .ok (.goto (4), 3) := by decide +kernel
theorem d_M_work_97 : decode prog_7_method_24_code 97 = .ok (.iconst 0, 1) := by decide +kernel
theorem d_M_work_98 : decode prog_7_method_24_code 98 = .ok (.istore 7, 2) := by decide +kernel
theorem d_M_work_100 : decode prog_7_method_24_code 100 = .ok (.aload_n 0, 1) := by decide +kernel
theorem d_M_work_101 : decode prog_7_method_24_code 101 = .ok (.getfield 59, 3) := by decide +kernel
theorem d_M_work_104 : decode prog_7_method_24_code 104 = .ok (.iload 8, 2) := by decide +kernel
theorem d_M_work_106 : decode prog_7_method_24_code 106 = .ok (.iaload, 1) := by decide +kernel
theorem d_M_work_107 : decode prog_7_method_24_code 107 = .ok (.iload 5, 2) := by decide +kernel
theorem d_M_work_109 : decode prog_7_method_24_code 109 = .ok (.if_icmp .le (26), 3) := by decide +kernel
theorem d_M_work_112 : decode prog_7_method_24_code 112 = .ok (.aload_n 0, 1) := by decide +kernel
theorem d_M_work_113 : decode prog_7_method_24_code 113 = .ok (.iload 6, 2) := by decide +kernel
theorem d_M_work_115 : decode prog_7_method_24_code 115 = .ok (.aload_n 0, 1) := by decide +kernel
theorem d_M_work_116 : decode prog_7_method_24_code 116 = .ok (.getfield 56, 3) := by decide +kernel
theorem d_M_work_119 : decode prog_7_method_24_code 119 = .ok (.sipush (1002), 3) := by decide +kernel
theorem d_M_work_122 : decode prog_7_method_24_code 122 = .ok (.iload 8, 2) := by decide +kernel
theorem d_M_work_124 : decode prog_7_method_24_code 124 = .ok (.imul, 1) := by decide +kernel
theorem d_M_work_125 : decode prog_7_method_24_code 125 = .ok (.iload 5, 2) := by decide +kernel
theorem d_M_work_127 : decode prog_7_method_24_code 127 = .ok (.iadd, 1) := by decide +kernel
theorem d_M_work_128 : decode prog_7_method_24_code 128 = .ok (.iaload, 1) := by decide +kernel
theorem d_M_work_129 : decode prog_7_method_24_code 129 = .ok (.invokevirtual 157, 3) := by decide +kernel
theorem d_M_work_132 : decode prog_7_method_24_code 132 = .ok (.goto (5), 3) := by decide +kernel
theorem d_M_work_135 : decode prog_7_method_24_code 135 = .ok (.iload 6, 2) := by decide +kernel
theorem d_M_work_137 : decode prog_7_method_24_code 137 = .ok (.istore 6, 2) := by decide +kernel
theorem d_M_work_139 : decode prog_7_method_24_code 139 = .ok (.iinc 8 (1), 3) := by decide +kernel
theorem d_M_work_142 : decode prog_7_method_24_code 142 = .ok (.goto (-109), 3) := by decide +kernel
theorem d_M_work_145 : decode prog_7_method_24_code 145 = .ok (.iconst 0, 1) := by decide +kernel
theorem d_M_work_146 : decode prog_7_method_24_code 146 = .ok (.istore 8, 2) := by decide +kernel
theorem d_M_work_148 : decode prog_7_method_24_code 148 = .ok (.iload 8, 2) := by decide +kernel
theorem d_M_work_150 : decode prog_7_method_24_code 150 = .ok (.aload_n 0, 1) := by decide +kernel
theorem d_M_work_151 : decode prog_7_method_24_code 151 = .ok (.getfield 134, 3) := by decide +kernel
theorem d_M_work_154 : decode prog_7_method_24_code 154 = .ok (.if_icmp .ge (106), 3) := by decide +kernel
theorem d_M_work_157 : decode prog_7_method_24_code 157 = .ok (.aload_n 0, 1) := by decide +kernel
theorem d_M_work_158 : decode prog_7_method_24_code 158 = .ok (.getfield 37, 3) := by decide +kernel
theorem d_M_work_161 : decode prog_7_method_24_code 161 = .ok (.iload 8, 2) := by decide +kernel
theorem d_M_work_163 : decode prog_7_method_24_code 163 = .ok (.iaload, 1) := by decide +kernel
theorem d_M_work_164 : decode prog_7_method_24_code 164 = .ok (.iload_n 1, 1) := by decide +kernel
theorem d_M_work_165 : decode prog_7_method_24_code 165 = .ok (.if_icmp .ne (89), 3) := by decide +kernel
theorem d_M_work_168 : decode prog_7_method_24_code 168 = .ok (.aload_n 0, 1) := by decide +kernel
theorem d_M_work_169 : decode prog_7_method_24_code 169 = .ok (.iload 8, 2) := by decide +kernel
theorem d_M_work_171 : decode prog_7_method_24_code 171 = .ok (.iload_n 3, 1) := by decide +kernel
theorem d_M_work_172 : decode prog_7_method_24_code 172 = .ok (.iload_n 2, 1) := by decide +kernel
theorem d_M_work_173 : decode prog_7_method_24_code 173 = .ok (.invokevirtual 178, 3) := by decide +kernel
theorem d_M_work_176 : decode prog_7_method_24_code 176 = .ok (.ifCond .ne (8), 3) := by decide +kernel
theorem d_M_work_179 : decode prog_7_method_24_code 179 = .ok (.iload 4, 2) := by decide +kernel
theorem d_M_work_181 : decode prog_7_method_24_code 181 = .ok (.ifCond .eq (7), 3) := by decide +kernel
theorem d_M_work_184 : decode prog_7_method_24_code 184 = .ok (.iconst 1, 1) := by decide +kernel
theorem d_M_work_185 : decode prog_7_method_24_code 185 = .ok (.goto (4), 3) := by decide +kernel
theorem d_M_work_188 : decode prog_7_method_24_code 188 = .ok (.iconst 0, 1) := by decide +kernel
theorem d_M_work_189 : decode prog_7_method_24_code 189 = .ok (.istore 4, 2) := by decide +kernel
theorem d_M_work_191 : decode prog_7_method_24_code 191 = .ok (.iload 7, 2) := by decide +kernel
theorem d_M_work_193 : decode prog_7_method_24_code 193 = .ok (.ifCond .eq (19), 3) := by decide +kernel
theorem d_M_work_196 : decode prog_7_method_24_code 196 = .ok (.aload_n 0, 1) := by decide +kernel
theorem d_M_work_197 : decode prog_7_method_24_code 197 = .ok (.getfield 83, 3) := by decide +kernel
theorem d_M_work_200 : decode prog_7_method_24_code 200 = .ok (.iload 8, 2) := by decide +kernel
theorem d_M_work_202 : decode prog_7_method_24_code 202 = .ok (.iaload, 1) := by decide +kernel
theorem d_M_work_203 : decode prog_7_method_24_code 203 = .ok (.iload 5, 2) := by decide +kernel
theorem d_M_work_205 : decode prog_7_method_24_code 205 = .ok (.if_icmp .le (7), 3) := by decide +kernel
theorem d_M_work_208 : decode prog_7_method_24_code 208 = .ok (.iconst 1, 1) := by decide +kernel
theorem d_M_work_209 : decode prog_7_method_24_code 209 = .ok (.goto (4), 3) := by decide +kernel
theorem d_M_work_212 : decode prog_7_method_24_code 212 = .ok (.iconst 0, 1) := by decide +kernel
theorem d_M_work_213 : decode prog_7_method_24_code 213 = .ok (.istore 7, 2) := by decide +kernel
theorem d_M_work_215 : decode prog_7_method_24_code 215 = .ok (.aload_n 0, 1) := by decide +kernel
theorem d_M_work_216 : decode prog_7_method_24_code 216 = .ok (.getfield 83, 3) := by decide +kernel
theorem d_M_work_219 : decode prog_7_method_24_code 219 = .ok (.iload 8, 2) := by decide +kernel
theorem d_M_work_221 : decode prog_7_method_24_code 221 = .ok (.iaload, 1) := by decide +kernel
theorem d_M_work_222 : decode prog_7_method_24_code 222 = .ok (.iload 5, 2) := by decide +kernel
theorem d_M_work_224 : decode prog_7_method_24_code 224 = .ok (.if_icmp .le (26), 3) := by decide +kernel
theorem d_M_work_227 : decode prog_7_method_24_code 227 = .ok (.aload_n 0, 1) := by decide +kernel
theorem d_M_work_228 : decode prog_7_method_24_code 228 = .ok (.iload 6, 2) := by decide +kernel
theorem d_M_work_230 : decode prog_7_method_24_code 230 = .ok (.aload_n 0, 1) := by decide +kernel
theorem d_M_work_231 : decode prog_7_method_24_code 231 = .ok (.getfield 80, 3) := by decide +kernel
theorem d_M_work_234 : decode prog_7_method_24_code 234 = .ok (.sipush (1002), 3) := by decide +kernel
theorem d_M_work_237 : decode prog_7_method_24_code 237 = .ok (.iload 8, 2) := by decide +kernel
theorem d_M_work_239 : decode prog_7_method_24_code 239 = .ok (.imul, 1) := by decide +kernel
theorem d_M_work_240 : decode prog_7_method_24_code 240 = .ok (.iload 5, 2) := by decide +kernel
theorem d_M_work_242 : decode prog_7_method_24_code 242 = .ok (.iadd, 1) := by decide +kernel
theorem d_M_work_243 : decode prog_7_method_24_code 243 = .ok (.iaload, 1) := by decide +kernel
theorem d_M_work_244 : decode prog_7_method_24_code 244 = .ok (.invokevirtual 157, 3) := by decide +kernel
theorem d_M_work_247 : decode prog_7_method_24_code 247 = .ok (.goto (5), 3) := by decide +kernel
theorem d_M_work_250 : decode prog_7_method_24_code 250 = .ok (.iload 6, 2) := by decide +kernel
theorem d_M_work_252 : decode prog_7_method_24_code 252 = .ok (.istore 6, 2) := by decide +kernel
theorem d_M_work_254 : decode prog_7_method_24_code 254 = .ok (.iinc 8 (1), 3) := by decide +kernel
theorem d_M_work_257 : decode prog_7_method_24_code 257 = .ok (.goto (-109), 3) := by decide +kernel
theorem d_M_work_260 : decode prog_7_method_24_code 260 = .ok (.iload 7, 2) := by decide +kernel
theorem d_M_work_262 : decode prog_7_method_24_code 262 = .ok (.ifCond .eq (28), 3) := by decide +kernel
theorem d_M_work_265 : decode prog_7_method_24_code 265 = .ok (.aload_n 0, 1) := by decide +kernel
theorem d_M_work_266 : decode prog_7_method_24_code 266 = .ok (.getfield 62, 3) := by decide +kernel
theorem d_M_work_269 : decode prog_7_method_24_code 269 = .ok (.sipush (1002), 3) := by decide +kernel
theorem d_M_work_272 : decode prog_7_method_24_code 272 = .ok (.iload_n 1, 1) := by decide +kernel
theorem d_M_work_273 : decode prog_7_method_24_code 273 = .ok (.imul, 1) := by decide +kernel
theorem d_M_work_274 : decode prog_7_method_24_code 274 = .ok (.iload 5, 2) := by decide +kernel
theorem d_M_work_276 : decode prog_7_method_24_code 276 = .ok (.iadd, 1) := by decide +kernel
theorem d_M_work_277 : decode prog_7_method_24_code 277 = .ok (.iload 6, 2) := by decide +kernel
theorem d_M_work_279 : decode prog_7_method_24_code 279 = .ok (.iastore, 1) := by decide +kernel
theorem d_M_work_280 : decode prog_7_method_24_code 280 = .ok (.aload_n 0, 1) := by decide +kernel
theorem d_M_work_281 : decode prog_7_method_24_code 281 = .ok (.getfield 65, 3) := by decide +kernel
theorem d_M_work_284 : decode prog_7_method_24_code 284 = .ok (.iload_n 1, 1) := by decide +kernel
theorem d_M_work_285 : decode prog_7_method_24_code 285 = .ok (.iload 5, 2) := by decide +kernel
theorem d_M_work_287 : decode prog_7_method_24_code 287 = .ok (.iconst 1, 1) := by decide +kernel
theorem d_M_work_288 : decode prog_7_method_24_code 288 = .ok (.iadd, 1) := by decide +kernel
theorem d_M_work_289 : decode prog_7_method_24_code 289 = .ok (.iastore, 1) := by decide +kernel
theorem d_M_work_290 : decode prog_7_method_24_code 290 = .ok (.iload 4, 2) := by decide +kernel
theorem d_M_work_292 : decode prog_7_method_24_code 292 = .ok (.ifCond .ne (8), 3) := by decide +kernel
theorem d_M_work_295 : decode prog_7_method_24_code 295 = .ok (.iload 7, 2) := by decide +kernel
theorem d_M_work_297 : decode prog_7_method_24_code 297 = .ok (.ifCond .eq (7), 3) := by decide +kernel
theorem d_M_work_300 : decode prog_7_method_24_code 300 = .ok (.iconst 1, 1) := by decide +kernel
theorem d_M_work_301 : decode prog_7_method_24_code 301 = .ok (.goto (4), 3) := by decide +kernel
theorem d_M_work_304 : decode prog_7_method_24_code 304 = .ok (.iconst 0, 1) := by decide +kernel
theorem d_M_work_305 : decode prog_7_method_24_code 305 = .ok (.ireturn, 1) := by decide +kernel
theorem d_M_settle_0 : decode prog_7_method_25_code 0 = .ok (.iconst 1, 1) := by decide +kernel
theorem d_M_settle_1 : decode prog_7_method_25_code 1 = .ok (.istore_n 2, 1) := by decide +kernel
theorem d_M_settle_2 : decode prog_7_method_25_code 2 = .ok (.iload_n 2, 1) := by decide +kernel
theorem d_M_settle_3 : decode prog_7_method_25_code 3 = .ok (.ifCond .eq (100), 3) := by decide +kernel
theorem d_M_settle_6 : decode prog_7_method_25_code 6 = .ok (.iconst 0, 1) := by decide +kernel
theorem d_M_settle_7 : decode prog_7_method_25_code 7 = .ok (.istore_n 2, 1) := by decide +kernel
theorem d_M_settle_8 : decode prog_7_method_25_code 8 = .ok (.iconst 0, 1) := by decide +kernel
theorem d_M_settle_9 : decode prog_7_method_25_code 9 = .ok (.istore_n 3, 1) := by decide +kernel
theorem d_M_settle_10 : decode prog_7_method_25_code 10 = .ok (.iload_n 3, 1) := by decide +kernel
theorem d_M_settle_11 : decode prog_7_method_25_code 11 = .ok (.aload_n 0, 1) := by decide +kernel
theorem d_M_settle_12 : decode prog_7_method_25_code 12 = .ok (.getfield 114, 3) := by decide +kernel
theorem d_M_settle_15 : decode prog_7_method_25_code 15 = .ok (.if_icmp .ge (28), 3) := by decide +kernel
theorem d_M_settle_18 : decode prog_7_method_25_code 18 = .ok (.aload_n 0, 1) := by decide +kernel
theorem d_M_settle_19 : decode prog_7_method_25_code 19 = .ok (.iload_n 3, 1) := by decide +kernel
theorem d_M_settle_20 : decode prog_7_method_25_code 20 = .ok (.iload_n 1, 1) := by decide +kernel
theorem d_M_settle_21 : decode prog_7_method_25_code 21 = .ok (.invokevirtual 181, 3) := by decide +kernel
theorem d_M_settle_24 : decode prog_7_method_25_code 24 = .ok (.ifCond .ne (7), 3) := by decide +kernel
theorem d_M_settle_27 : decode prog_7_method_25_code 27 = .ok (.iload_n 2, 1) := by decide +kernel
theorem d_M_settle_28 : decode prog_7_method_25_code 28 = .ok (.ifCond .eq (7), 3) := by decide +kernel
theorem d_M_settle_31 : decode prog_7_method_25_code 31 = .ok (.iconst 1, 1) := by decide +kernel
theorem d_M_settle_32 : decode prog_7_method_25_code 32 = .ok (.goto (4), 3) := by decide +kernel
theorem d_M_settle_35 : decode prog_7_method_25_code 35 = .ok (.iconst 0, 1) := by decide +kernel
theorem d_M_settle_36 : decode prog_7_method_25_code 36 = .ok (.istore_n 2, 1) := by decide +kernel
theorem d_M_settle_37 : decode prog_7_method_25_code 37 = .ok (.iinc 3 (1), 3) := by decide +kernel
theorem d_M_settle_40 : decode prog_7_method_25_code 40 = .ok (.goto (-30), 3) := by decide +kernel
theorem d_M_settle_43 : decode prog_7_method_25_code 43 = .ok (.iconst 0, 1) := by decide +kernel
theorem d_M_settle_44 : decode prog_7_method_25_code 44 = .ok (.istore_n 3, 1) := by decide +kernel
theorem d_M_settle_45 : decode prog_7_method_25_code 45 = .ok (.iload_n 3, 1) := by decide +kernel
theorem d_M_settle_46 : decode prog_7_method_25_code 46 = .ok (.aload_n 0, 1) := by decide +kernel
theorem d_M_settle_47 : decode prog_7_method_25_code 47 = .ok (.getfield 125, 3) := by decide +kernel
theorem d_M_settle_50 : decode prog_7_method_25_code 50 = .ok (.if_icmp .ge (50), 3) := by decide +kernel
theorem d_M_settle_53 : decode prog_7_method_25_code 53 = .ok (.iconst 0, 1) := by decide +kernel
theorem d_M_settle_54 : decode prog_7_method_25_code 54 = .ok (.istore 4, 2) := by decide +kernel
theorem d_M_settle_56 : decode prog_7_method_25_code 56 = .ok (.iload 4, 2) := by decide +kernel
theorem d_M_settle_58 : decode prog_7_method_25_code 58 = .ok (.aload_n 0, 1) := by decide +kernel
theorem d_M_settle_59 : decode prog_7_method_25_code 59 = .ok (.getfield 25, 3) := by decide +kernel
theorem d_M_settle_62 : decode prog_7_method_25_code 62 = .ok (.iload_n 3, 1) := by decide +kernel
theorem d_M_settle_63 : decode prog_7_method_25_code 63 = .ok (.iaload, 1) := by decide +kernel
theorem d_M_settle_64 : decode prog_7_method_25_code 64 = .ok (.if_icmp .ge (30), 3) := by decide +kernel
theorem d_M_settle_67 : decode prog_7_method_25_code 67 = .ok (.aload_n 0, 1) := by decide +kernel
theorem d_M_settle_68 : decode prog_7_method_25_code 68 = .ok (.iload_n 3, 1) := by decide +kernel
theorem d_M_settle_69 : decode prog_7_method_25_code 69 = .ok (.iload 4, 2) := by decide +kernel
theorem d_M_settle_71 : decode prog_7_method_25_code 71 = .ok (.iload_n 1, 1) := by decide +kernel
theorem d_M_settle_72 : decode prog_7_method_25_code 72 = .ok (.invokevirtual 185, 3) := by decide +kernel
theorem d_M_settle_75 : decode prog_7_method_25_code 75 = .ok (.ifCond .ne (7), 3) := by decide +kernel
theorem d_M_settle_78 : decode prog_7_method_25_code 78 = .ok (.iload_n 2, 1) := by decide +kernel
theorem d_M_settle_79 : decode prog_7_method_25_code 79 = .ok (.ifCond .eq (7), 3) := by decide +kernel
theorem d_M_settle_82 : decode prog_7_method_25_code 82 = .ok (.iconst 1, 1) := by decide +kernel
theorem d_M_settle_83 : decode prog_7_method_25_code 83 = .ok (.goto (4), 3) := by decide +kernel
theorem d_M_settle_86 : decode prog_7_method_25_code 86 = .ok (.iconst 0, 1) := by decide +kernel
theorem d_M_settle_87 : decode prog_7_method_25_code 87 = .ok (.istore_n 2, 1) := by decide +kernel
theorem d_M_settle_88 : decode prog_7_method_25_code 88 = .ok (.iinc 4 (1), 3) := by decide +kernel
theorem d_M_settle_91 : decode prog_7_method_25_code 91 = .ok (.goto (-35), 3) := by decide +kernel
theorem d_M_settle_94 : decode prog_7_method_25_code 94 = .ok (.iinc 3 (1), 3) := by decide +kernel
theorem d_M_settle_97 : decode prog_7_method_25_code 97 = .ok (.goto (-52), 3) := by decide +kernel
theorem d_M_settle_100 : decode prog_7_method_25_code 100 = .ok (.goto (-98), 3) := by decide +kernel
theorem d_M_settle_103 : decode prog_7_method_25_code 103 = .ok (.return_, 1) := by decide +kernel
theorem d_M_offer_0 : decode prog_7_method_26_code 0 = .ok (.aload_n 0, 1) := by decide +kernel
theorem d_M_offer_1 : decode prog_7_method_26_code 1 = .ok (.aload_n 0, 1) := by decide +kernel
theorem d_M_offer_2 : decode prog_7_method_26_code 2 = .ok (.getfield 117, 3) := by decide +kernel
theorem d_M_offer_5 : decode prog_7_method_26_code 5 = .ok (.ifCond .ne (7), 3) := by decide +kernel
theorem d_M_offer_8 : decode prog_7_method_26_code 8 = .ok (.iconst 1, 1) := by decide +kernel
theorem d_M_offer_9 : decode prog_7_method_26_code 9 = .ok (.goto (20), 3) := by decide +kernel
theorem d_M_offer_12 : decode prog_7_method_26_code 12 = .ok (.iload_n 1, 1) := by decide +kernel
theorem d_M_offer_13 : decode prog_7_method_26_code 13 = .ok (.ifCond .lt (11), 3) := by decide +kernel
theorem d_M_offer_16 : decode prog_7_method_26_code 16 = .ok (.iload_n 1, 1) := by decide +kernel
theorem d_M_offer_17 : decode prog_7_method_26_code 17 = .ok (.aload_n 0, 1) := by decide +kernel
theorem d_M_offer_18 : decode prog_7_method_26_code 18 = .ok (.getfield 131, 3) := by decide +kernel
theorem d_M_offer_21 : decode prog_7_method_26_code 21 = .ok (.if_icmp .lt (7), 3) := by decide +kernel
theorem d_M_offer_24 : decode prog_7_method_26_code 24 = .ok (.iconst 2, 1) := by decide +kernel
theorem d_M_offer_25 : decode prog_7_method_26_code 25 = .ok (.goto (4), 3) := by decide +kernel
theorem d_M_offer_28 : decode prog_7_method_26_code 28 = .ok (.iconst 0, 1) := by decide +kernel
theorem d_M_offer_29 : decode prog_7_method_26_code 29 = .ok (.putfield 110, 3) := by decide +kernel
theorem d_M_offer_32 : decode prog_7_method_26_code 32 = .ok (.aload_n 0, 1) := by decide +kernel
theorem d_M_offer_33 : decode prog_7_method_26_code 33 = .ok (.getfield 110, 3) := by decide +kernel
theorem d_M_offer_36 : decode prog_7_method_26_code 36 = .ok (.ifCond .gt (35), 3) := by decide +kernel
theorem d_M_offer_39 : decode prog_7_method_26_code 39 = .ok (.aload_n 0, 1) := by decide +kernel
theorem d_M_offer_40 : decode prog_7_method_26_code 40 = .ok (.getfield 74, 3) := by decide +kernel
theorem d_M_offer_43 : decode prog_7_method_26_code 43 = .ok (.iload_n 1, 1) := by decide +kernel
theorem d_M_offer_44 : decode prog_7_method_26_code 44 = .ok (.iaload, 1) := by decide +kernel
theorem d_M_offer_45 : decode prog_7_method_26_code 45 = .ok (.aload_n 0, 1) := by decide +kernel
theorem d_M_offer_46 : decode prog_7_method_26_code 46 = .ok (.getfield 65, 3) := by decide +kernel
theorem d_M_offer_49 : decode prog_7_method_26_code 49 = .ok (.aload_n 0, 1) := by decide +kernel
theorem d_M_offer_50 : decode prog_7_method_26_code 50 = .ok (.getfield 31, 3) := by decide +kernel
theorem d_M_offer_53 : decode prog_7_method_26_code 53 = .ok (.iload_n 1, 1) := by decide +kernel
theorem d_M_offer_54 : decode prog_7_method_26_code 54 = .ok (.iaload, 1) := by decide +kernel
theorem d_M_offer_55 : decode prog_7_method_26_code 55 = .ok (.iaload, 1) := by decide +kernel
theorem d_M_offer_56 : decode prog_7_method_26_code 56 = .ok (.if_icmp .gt (15), 3) := by decide +kernel
theorem d_M_offer_59 : decode prog_7_method_26_code 59 = .ok (.aload_n 0, 1) := by decide +kernel
theorem d_M_offer_60 : decode prog_7_method_26_code 60 = .ok (.getfield 74, 3) := by decide +kernel
theorem d_M_offer_63 : decode prog_7_method_26_code 63 = .ok (.iload_n 1, 1) := by decide +kernel
theorem d_M_offer_64 : decode prog_7_method_26_code 64 = .ok (.iaload, 1) := by decide +kernel
theorem d_M_offer_65 : decode prog_7_method_26_code 65 = .ok (.sipush (1000), 3) := by decide +kernel
theorem d_M_offer_68 : decode prog_7_method_26_code 68 = .ok (.if_icmp .ne (5), 3) := by decide +kernel
theorem d_M_offer_71 : decode prog_7_method_26_code 71 = .ok (.iconst 0, 1) := by decide +kernel
theorem d_M_offer_72 : decode prog_7_method_26_code 72 = .ok (.ireturn, 1) := by decide +kernel
theorem d_M_offer_73 : decode prog_7_method_26_code 73 = .ok (.aload_n 0, 1) := by decide +kernel
theorem d_M_offer_74 : decode prog_7_method_26_code 74 = .ok (.getfield 68, 3) := by decide +kernel
theorem d_M_offer_77 : decode prog_7_method_26_code 77 = .ok (.sipush (1002), 3) := by decide +kernel
theorem d_M_offer_80 : decode prog_7_method_26_code 80 = .ok (.iload_n 1, 1) := by decide +kernel
theorem d_M_offer_81 : decode prog_7_method_26_code 81 = .ok (.imul, 1) := by decide +kernel
theorem d_M_offer_82 : decode prog_7_method_26_code 82 = .ok (.aload_n 0, 1) := by decide +kernel
theorem d_M_offer_83 : decode prog_7_method_26_code 83 = .ok (.getfield 74, 3) := by decide +kernel
theorem d_M_offer_86 : decode prog_7_method_26_code 86 = .ok (.iload_n 1, 1) := by decide +kernel
theorem d_M_offer_87 : decode prog_7_method_26_code 87 = .ok (.iaload, 1) := by decide +kernel
theorem d_M_offer_88 : decode prog_7_method_26_code 88 = .ok (.iadd, 1) := by decide +kernel
theorem d_M_offer_89 : decode prog_7_method_26_code 89 = .ok (.iload_n 2, 1) := by decide +kernel
theorem d_M_offer_90 : decode prog_7_method_26_code 90 = .ok (.iastore, 1) := by decide +kernel
theorem d_M_offer_91 : decode prog_7_method_26_code 91 = .ok (.aload_n 0, 1) := by decide +kernel
theorem d_M_offer_92 : decode prog_7_method_26_code 92 = .ok (.getfield 71, 3) := by decide +kernel
theorem d_M_offer_95 : decode prog_7_method_26_code 95 = .ok (.sipush (1002), 3) := by decide +kernel
theorem d_M_offer_98 : decode prog_7_method_26_code 98 = .ok (.iload_n 1, 1) := by decide +kernel
theorem d_M_offer_99 : decode prog_7_method_26_code 99 = .ok (.imul, 1) := by decide +kernel
theorem d_M_offer_100 : decode prog_7_method_26_code 100 = .ok (.aload_n 0, 1) := by decide +kernel
theorem d_M_offer_101 : decode prog_7_method_26_code 101 = .ok (.getfield 74, 3) := by decide +kernel
theorem d_M_offer_104 : decode prog_7_method_26_code 104 = .ok (.iload_n 1, 1) := by decide +kernel
theorem d_M_offer_105 : decode prog_7_method_26_code 105 = .ok (.iaload, 1) := by decide +kernel
theorem d_M_offer_106 : decode prog_7_method_26_code 106 = .ok (.iadd, 1) := by decide +kernel
theorem d_M_offer_107 : decode prog_7_method_26_code 107 = .ok (.aload_n 0, 1) := by decide +kernel
theorem d_M_offer_108 : decode prog_7_method_26_code 108 = .ok (.getfield 143, 3) := by decide +kernel
theorem d_M_offer_111 : decode prog_7_method_26_code 111 = .ok (.iastore, 1) := by decide +kernel
theorem d_M_offer_112 : decode prog_7_method_26_code 112 = .ok (.aload_n 0, 1) := by decide +kernel
theorem d_M_offer_113 : decode prog_7_method_26_code 113 = .ok (.getfield 74, 3) := by decide +kernel
theorem d_M_offer_116 : decode prog_7_method_26_code 116 = .ok (.iload_n 1, 1) := by decide +kernel
theorem d_M_offer_117 : decode prog_7_method_26_code 117 = .ok (.aload_n 0, 1) := by decide +kernel
theorem d_M_offer_118 : decode prog_7_method_26_code 118 = .ok (.getfield 74, 3) := by decide +kernel
theorem d_M_offer_121 : decode prog_7_method_26_code 121 = .ok (.iload_n 1, 1) := by decide +kernel
theorem d_M_offer_122 : decode prog_7_method_26_code 122 = .ok (.iaload, 1) := by decide +kernel
theorem d_M_offer_123 : decode prog_7_method_26_code 123 = .ok (.iconst 1, 1) := by decide +kernel
theorem d_M_offer_124 : decode prog_7_method_26_code 124 = .ok (.iadd, 1) := by decide +kernel
theorem d_M_offer_125 : decode prog_7_method_26_code 125 = .ok (.iastore, 1) := by decide +kernel
theorem d_M_offer_126 : decode prog_7_method_26_code 126 = .ok (.iconst 1, 1) := by decide +kernel
theorem d_M_offer_127 : decode prog_7_method_26_code 127 = .ok (.ireturn, 1) := by decide +kernel
theorem d_M_one_0 : decode prog_7_method_27_code 0 = .ok (.aload_n 0, 1) := by decide +kernel
theorem d_M_one_1 : decode prog_7_method_27_code 1 = .ok (.getfield 143, 3) := by decide +kernel
theorem d_M_one_4 : decode prog_7_method_27_code 4 = .ok (.istore_n 2, 1) := by decide +kernel
theorem d_M_one_5 : decode prog_7_method_27_code 5 = .ok (.aload_n 0, 1) := by decide +kernel
theorem d_M_one_6 : decode prog_7_method_27_code 6 = .ok (.getfield 43, 3) := by decide +kernel
theorem d_M_one_9 : decode prog_7_method_27_code 9 = .ok (.iload_n 2, 1) := by decide +kernel
theorem d_M_one_10 : decode prog_7_method_27_code 10 = .ok (.iload_n 1, 1) := by decide +kernel
theorem d_M_one_11 : decode prog_7_method_27_code 11 = .ok (.iastore, 1) := by decide +kernel
theorem d_M_one_12 : decode prog_7_method_27_code 12 = .ok (.aload_n 0, 1) := by decide +kernel
theorem d_M_one_13 : decode prog_7_method_27_code 13 = .ok (.iload_n 2, 1) := by decide +kernel
theorem d_M_one_14 : decode prog_7_method_27_code 14 = .ok (.invokevirtual 188, 3) := by decide +kernel
theorem d_M_one_17 : decode prog_7_method_27_code 17 = .ok (.aload_n 0, 1) := by decide +kernel
theorem d_M_one_18 : decode prog_7_method_27_code 18 = .ok (.dup, 1) := by decide +kernel
theorem d_M_one_19 : decode prog_7_method_27_code 19 = .ok (.getfield 143, 3) := by decide +kernel
theorem d_M_one_22 : decode prog_7_method_27_code 22 = .ok (.iconst 1, 1) := by decide +kernel
theorem d_M_one_23 : decode prog_7_method_27_code 23 = .ok (.iadd, 1) := by decide +kernel
theorem d_M_one_24 : decode prog_7_method_27_code 24 = .ok (.putfield 143, 3) := by decide +kernel
theorem d_M_one_27 : decode prog_7_method_27_code 27 = .ok (.iconst 0, 1) := by decide +kernel
theorem d_M_one_28 : decode prog_7_method_27_code 28 = .ok (.istore_n 3, 1) := by decide +kernel
theorem d_M_one_29 : decode prog_7_method_27_code 29 = .ok (.iconst 0, 1) := by decide +kernel
theorem d_M_one_30 : decode prog_7_method_27_code 30 = .ok (.istore 4, 2) := by decide +kernel
theorem d_M_one_32 : decode prog_7_method_27_code 32 = .ok (.iload 4, 2) := by decide +kernel
theorem d_M_one_34 : decode prog_7_method_27_code 34 = .ok (.aload_n 0, 1) := by decide +kernel
theorem d_M_one_35 : decode prog_7_method_27_code 35 = .ok (.getfield 134, 3) := by decide +kernel
theorem d_M_one_38 : decode prog_7_method_27_code 38 = .ok (.if_icmp .ge (55), 3) := by decide +kernel
theorem d_M_one_41 : decode prog_7_method_27_code 41 = .ok (.aload_n 0, 1) := by decide +kernel
theorem d_M_one_42 : decode prog_7_method_27_code 42 = .ok (.getfield 83, 3) := by decide +kernel
theorem d_M_one_45 : decode prog_7_method_27_code 45 = .ok (.iload 4, 2) := by decide +kernel
theorem d_M_one_47 : decode prog_7_method_27_code 47 = .ok (.iaload, 1) := by decide +kernel
theorem d_M_one_48 : decode prog_7_method_27_code 48 = .ok (.ifCond .le (37), 3) := by decide +kernel
theorem d_M_one_51 : decode prog_7_method_27_code 51 = .ok (.aload_n 0, 1) := by decide +kernel
theorem d_M_one_52 : decode prog_7_method_27_code 52 = .ok (.getfield 80, 3) := by decide +kernel
theorem d_M_one_55 : decode prog_7_method_27_code 55 = .ok (.sipush (1002), 3) := by decide +kernel
theorem d_M_one_58 : decode prog_7_method_27_code 58 = .ok (.iload 4, 2) := by decide +kernel
theorem d_M_one_60 : decode prog_7_method_27_code 60 = .ok (.imul, 1) := by decide +kernel
theorem d_M_one_61 : decode prog_7_method_27_code 61 = .ok (.aload_n 0, 1) := by decide +kernel
theorem d_M_one_62 : decode prog_7_method_27_code 62 = .ok (.getfield 83, 3) := by decide +kernel
theorem d_M_one_65 : decode prog_7_method_27_code 65 = .ok (.iload 4, 2) := by decide +kernel
theorem d_M_one_67 : decode prog_7_method_27_code 67 = .ok (.iaload, 1) := by decide +kernel
theorem d_M_one_68 : decode prog_7_method_27_code 68 = .ok (.iadd, 1) := by decide +kernel
theorem d_M_one_69 : decode prog_7_method_27_code 69 = .ok (.iconst 1, 1) := by decide +kernel
theorem d_M_one_70 : decode prog_7_method_27_code 70 = .ok (.isub, 1) := by decide +kernel
theorem d_M_one_71 : decode prog_7_method_27_code 71 = .ok (.iaload, 1) := by decide +kernel
theorem d_M_one_72 : decode prog_7_method_27_code 72 = .ok (.iload_n 2, 1) := by decide +kernel
theorem d_M_one_73 : decode prog_7_method_27_code 73 = .ok (.if_icmp .ne (12), 3) := by decide +kernel
theorem d_M_one_76 : decode prog_7_method_27_code 76 = .ok (.iload_n 3, 1) := by decide +kernel
theorem d_M_one_77 : decode prog_7_method_27_code 77 = .ok (.iconst 1, 1) := by decide +kernel
theorem d_M_one_78 : decode prog_7_method_27_code 78 = .ok (.iload 4, 2) := by decide +kernel
theorem d_M_one_80 : decode prog_7_method_27_code 80 = .ok (.ishl, 1) := by decide +kernel
theorem d_M_one_81 : decode prog_7_method_27_code 81 = .ok (.ior, 1) := by decide +kernel
theorem d_M_one_82 : decode prog_7_method_27_code 82 = .ok (.goto (4), 3) := by decide +kernel
theorem d_M_one_85 : decode prog_7_method_27_code 85 = .ok (.iload_n 3, 1) := by decide +kernel
theorem d_M_one_86 : decode prog_7_method_27_code 86 = .ok (.istore_n 3, 1) := by decide +kernel
theorem d_M_one_87 : decode prog_7_method_27_code 87 = .ok (.iinc 4 (1), 3) := by decide +kernel
theorem d_M_one_90 : decode prog_7_method_27_code 90 = .ok (.goto (-58), 3) := by decide +kernel
theorem d_M_one_93 : decode prog_7_method_27_code 93 = .ok (.iconst 0, 1) := by decide +kernel
theorem d_M_one_94 : decode prog_7_method_27_code 94 = .ok (.istore 4, 2) := by decide +kernel
theorem d_M_one_96 : decode prog_7_method_27_code 96 = .ok (.iload 4, 2) := by decide +kernel
theorem d_M_one_98 : decode prog_7_method_27_code 98 = .ok (.aload_n 0, 1) := by decide +kernel
theorem d_M_one_99 : decode prog_7_method_27_code 99 = .ok (.getfield 131, 3) := by decide +kernel
theorem d_M_one_102 : decode prog_7_method_27_code 102 = .ok (.if_icmp .ge (65), 3) := by decide +kernel
theorem d_M_one_105 : decode prog_7_method_27_code 105 = .ok (.aload_n 0, 1) := by decide +kernel
theorem d_M_one_106 : decode prog_7_method_27_code 106 = .ok (.getfield 65, 3) := by decide +kernel
theorem d_M_one_109 : decode prog_7_method_27_code 109 = .ok (.aload_n 0, 1) := by decide +kernel
theorem d_M_one_110 : decode prog_7_method_27_code 110 = .ok (.getfield 31, 3) := by decide +kernel
theorem d_M_one_113 : decode prog_7_method_27_code 113 = .ok (.iload 4, 2) := by decide +kernel
theorem d_M_one_115 : decode prog_7_method_27_code 115 = .ok (.iaload, 1) := by decide +kernel
theorem d_M_one_116 : decode prog_7_method_27_code 116 = .ok (.iaload, 1) := by decide +kernel
theorem d_M_one_117 : decode prog_7_method_27_code 117 = .ok (.istore 5, 2) := by decide +kernel
theorem d_M_one_119 : decode prog_7_method_27_code 119 = .ok (.iload 5, 2) := by decide +kernel
theorem d_M_one_121 : decode prog_7_method_27_code 121 = .ok (.ifCond .le (38), 3) := by decide +kernel
theorem d_M_one_124 : decode prog_7_method_27_code 124 = .ok (.aload_n 0, 1) := by decide +kernel
theorem d_M_one_125 : decode prog_7_method_27_code 125 = .ok (.getfield 62, 3) := by decide +kernel
theorem d_M_one_128 : decode prog_7_method_27_code 128 = .ok (.sipush (1002), 3) := by decide +kernel
theorem d_M_one_131 : decode prog_7_method_27_code 131 = .ok (.aload_n 0, 1) := by decide +kernel
theorem d_M_one_132 : decode prog_7_method_27_code 132 = .ok (.getfield 31, 3) := by decide +kernel
theorem d_M_one_135 : decode prog_7_method_27_code 135 = .ok (.iload 4, 2) := by decide +kernel
theorem d_M_one_137 : decode prog_7_method_27_code 137 = .ok (.iaload, 1) := by decide +kernel
theorem d_M_one_138 : decode prog_7_method_27_code 138 = .ok (.imul, 1) := by decide +kernel
theorem d_M_one_139 : decode prog_7_method_27_code 139 = .ok (.iload 5, 2) := by decide +kernel
theorem d_M_one_141 : decode prog_7_method_27_code 141 = .ok (.iadd, 1) := by decide +kernel
theorem d_M_one_142 : decode prog_7_method_27_code 142 = .ok (.iconst 1, 1) := by decide +kernel
theorem d_M_one_143 : decode prog_7_method_27_code 143 = .ok (.isub, 1) := by decide +kernel
theorem d_M_one_144 : decode prog_7_method_27_code 144 = .ok (.iaload, 1) := by decide +kernel
theorem d_M_one_145 : decode prog_7_method_27_code 145 = .ok (.iload_n 2, 1) := by decide +kernel
theorem d_M_one_146 : decode prog_7_method_27_code 146 = .ok (.if_icmp .ne (13), 3) := by decide +kernel
theorem d_M_one_149 : decode prog_7_method_27_code 149 = .ok (.iload_n 3, 1) := by decide +kernel
theorem d_M_one_150 : decode prog_7_method_27_code 150 = .ok (.bipush (16), 2) := by decide +kernel
theorem d_M_one_152 : decode prog_7_method_27_code 152 = .ok (.iload 4, 2) := by decide +kernel
theorem d_M_one_154 : decode prog_7_method_27_code 154 = .ok (.ishl, 1) := by decide +kernel
theorem d_M_one_155 : decode prog_7_method_27_code 155 = .ok (.ior, 1) := by decide +kernel
theorem d_M_one_156 : decode prog_7_method_27_code 156 = .ok (.goto (4), 3) := by decide +kernel
theorem d_M_one_159 : decode prog_7_method_27_code 159 = .ok (.iload_n 3, 1) := by decide +kernel
theorem d_M_one_160 : decode prog_7_method_27_code 160 = .ok (.istore_n 3, 1) := by decide +kernel
theorem d_M_one_161 : decode prog_7_method_27_code 161 = .ok (.iinc 4 (1), 3) := by decide +kernel
theorem d_M_one_164 : decode prog_7_method_27_code 164 = .ok (.goto (-68), 3) := by decide +kernel
theorem d_M_one_167 : decode prog_7_method_27_code 167 = .ok (.iload_n 3, 1) := by decide +kernel
theorem d_M_one_168 : decode prog_7_method_27_code 168 = .ok (.ireturn, 1) := by decide +kernel
theorem d_M_tick_0 : decode prog_7_method_28_code 0 = .ok (.aload_n 0, 1) := by decide +kernel
theorem d_M_tick_1 : decode prog_7_method_28_code 1 = .ok (.aload_n 0, 1) := by decide +kernel
theorem d_M_tick_2 : decode prog_7_method_28_code 2 = .ok (.getfield 117, 3) := by decide +kernel
theorem d_M_tick_5 : decode prog_7_method_28_code 5 = .ok (.ifCond .eq (7), 3) := by decide +kernel
theorem d_M_tick_8 : decode prog_7_method_28_code 8 = .ok (.iconst 0, 1) := by decide +kernel
theorem d_M_tick_9 : decode prog_7_method_28_code 9 = .ok (.goto (4), 3) := by decide +kernel
theorem d_M_tick_12 : decode prog_7_method_28_code 12 = .ok (.iconst 1, 1) := by decide +kernel
theorem d_M_tick_13 : decode prog_7_method_28_code 13 = .ok (.putfield 110, 3) := by decide +kernel
theorem d_M_tick_16 : decode prog_7_method_28_code 16 = .ok (.aload_n 0, 1) := by decide +kernel
theorem d_M_tick_17 : decode prog_7_method_28_code 17 = .ok (.getfield 110, 3) := by decide +kernel
theorem d_M_tick_20 : decode prog_7_method_28_code 20 = .ok (.ifCond .le (7), 3) := by decide +kernel
theorem d_M_tick_23 : decode prog_7_method_28_code 23 = .ok (.iconst 0, 1) := by decide +kernel
theorem d_M_tick_24 : decode prog_7_method_28_code 24 = .ok (.goto (22), 3) := by decide +kernel
theorem d_M_tick_27 : decode prog_7_method_28_code 27 = .ok (.aload_n 0, 1) := by decide +kernel
theorem d_M_tick_28 : decode prog_7_method_28_code 28 = .ok (.getfield 143, 3) := by decide +kernel
theorem d_M_tick_31 : decode prog_7_method_28_code 31 = .ok (.sipush (1000), 3) := by decide +kernel
theorem d_M_tick_34 : decode prog_7_method_28_code 34 = .ok (.if_icmp .ne (7), 3) := by decide +kernel
theorem d_M_tick_37 : decode prog_7_method_28_code 37 = .ok (.iconst (-1), 1) := by decide +kernel
theorem d_M_tick_38 : decode prog_7_method_28_code 38 = .ok (.goto (8), 3) := by decide +kernel
theorem d_M_tick_41 : decode prog_7_method_28_code 41 = .ok (.aload_n 0, 1) := by decide +kernel
theorem d_M_tick_42 : decode prog_7_method_28_code 42 = .ok (.iload_n 1, 1) := by decide +kernel
theorem d_M_tick_43 : decode prog_7_method_28_code 43 = .ok (.invokevirtual 192, 3) := by decide +kernel
theorem d_M_tick_46 : decode prog_7_method_28_code 46 = .ok (.ireturn, 1) := by decide +kernel
theorem d_M_run_0 : decode prog_7_method_29_code 0 = .ok (.aload_n 0, 1) := by decide +kernel
theorem d_M_run_1 : decode prog_7_method_29_code 1 = .ok (.aload_n 0, 1) := by decide +kernel
theorem d_M_run_2 : decode prog_7_method_29_code 2 = .ok (.getfield 117, 3) := by decide +kernel
theorem d_M_run_5 : decode prog_7_method_29_code 5 = .ok (.ifCond .ne (7), 3) := by decide +kernel
theorem d_M_run_8 : decode prog_7_method_29_code 8 = .ok (.iconst 1, 1) := by decide +kernel
theorem d_M_run_9 : decode prog_7_method_29_code 9 = .ok (.goto (19), 3) := by decide +kernel
theorem d_M_run_12 : decode prog_7_method_29_code 12 = .ok (.iload_n 1, 1) := by decide +kernel
theorem d_M_run_13 : decode prog_7_method_29_code 13 = .ok (.ifCond .lt (10), 3) := by decide +kernel
theorem d_M_run_16 : decode prog_7_method_29_code 16 = .ok (.iload_n 1, 1) := by decide +kernel
theorem d_M_run_17 : decode prog_7_method_29_code 17 = .ok (.sipush (1000), 3) := by decide +kernel
theorem d_M_run_20 : decode prog_7_method_29_code 20 = .ok (.if_icmp .le (7), 3) := by decide +kernel
theorem d_M_run_23 : decode prog_7_method_29_code 23 = .ok (.iconst 2, 1) := by decide +kernel
theorem d_M_run_24 : decode prog_7_method_29_code 24 = .ok (.goto (4), 3) := by decide +kernel
theorem d_M_run_27 : decode prog_7_method_29_code 27 = .ok (.iconst 0, 1) := by decide +kernel
theorem d_M_run_28 : decode prog_7_method_29_code 28 = .ok (.putfield 110, 3) := by decide +kernel
theorem d_M_run_31 : decode prog_7_method_29_code 31 = .ok (.iconst 0, 1) := by decide +kernel
theorem d_M_run_32 : decode prog_7_method_29_code 32 = .ok (.istore_n 3, 1) := by decide +kernel
theorem d_M_run_33 : decode prog_7_method_29_code 33 = .ok (.aload_n 0, 1) := by decide +kernel
theorem d_M_run_34 : decode prog_7_method_29_code 34 = .ok (.getfield 110, 3) := by decide +kernel
theorem d_M_run_37 : decode prog_7_method_29_code 37 = .ok (.ifCond .ne (31), 3) := by decide +kernel
theorem d_M_run_40 : decode prog_7_method_29_code 40 = .ok (.iload_n 3, 1) := by decide +kernel
theorem d_M_run_41 : decode prog_7_method_29_code 41 = .ok (.iload_n 1, 1) := by decide +kernel
theorem d_M_run_42 : decode prog_7_method_29_code 42 = .ok (.if_icmp .ge (26), 3) := by decide +kernel
theorem d_M_run_45 : decode prog_7_method_29_code 45 = .ok (.aload_n 0, 1) := by decide +kernel
theorem d_M_run_46 : decode prog_7_method_29_code 46 = .ok (.getfield 143, 3) := by decide +kernel
theorem d_M_run_49 : decode prog_7_method_29_code 49 = .ok (.sipush (1000), 3) := by decide +kernel
theorem d_M_run_52 : decode prog_7_method_29_code 52 = .ok (.if_icmp .ge (16), 3) := by decide +kernel
theorem d_M_run_55 : decode prog_7_method_29_code 55 = .ok (.aload_n 0, 1) := by decide +kernel
theorem d_M_run_56 : decode prog_7_method_29_code 56 = .ok (.iload_n 2, 1) := by decide +kernel
theorem d_M_run_57 : decode prog_7_method_29_code 57 = .ok (.invokevirtual 192, 3) := by decide +kernel
theorem d_M_run_60 : decode prog_7_method_29_code 60 = .ok (.istore 4, 2) := by decide +kernel
theorem d_M_run_62 : decode prog_7_method_29_code 62 = .ok (.iinc 3 (1), 3) := by decide +kernel
theorem d_M_run_65 : decode prog_7_method_29_code 65 = .ok (.goto (-32), 3) := by decide +kernel
theorem d_M_run_68 : decode prog_7_method_29_code 68 = .ok (.iload_n 3, 1) := by decide +kernel
theorem d_M_run_69 : decode prog_7_method_29_code 69 = .ok (.ireturn, 1) := by decide +kernel
theorem d_M_ticks_0 : decode prog_7_method_30_code 0 = .ok (.aload_n 0, 1) := by decide +kernel
theorem d_M_ticks_1 : decode prog_7_method_30_code 1 = .ok (.aload_n 0, 1) := by decide +kernel
theorem d_M_ticks_2 : decode prog_7_method_30_code 2 = .ok (.getfield 117, 3) := by decide +kernel
theorem d_M_ticks_5 : decode prog_7_method_30_code 5 = .ok (.ifCond .eq (7), 3) := by decide +kernel
theorem d_M_ticks_8 : decode prog_7_method_30_code 8 = .ok (.iconst 0, 1) := by decide +kernel
theorem d_M_ticks_9 : decode prog_7_method_30_code 9 = .ok (.goto (4), 3) := by decide +kernel
theorem d_M_ticks_12 : decode prog_7_method_30_code 12 = .ok (.iconst 1, 1) := by decide +kernel
theorem d_M_ticks_13 : decode prog_7_method_30_code 13 = .ok (.putfield 110, 3) := by decide +kernel
theorem d_M_ticks_16 : decode prog_7_method_30_code 16 = .ok (.aload_n 0, 1) := by decide +kernel
theorem d_M_ticks_17 : decode prog_7_method_30_code 17 = .ok (.getfield 110, 3) := by decide +kernel
theorem d_M_ticks_20 : decode prog_7_method_30_code 20 = .ok (.ifCond .le (7), 3) := by decide +kernel
theorem d_M_ticks_23 : decode prog_7_method_30_code 23 = .ok (.iconst 0, 1) := by decide +kernel
theorem d_M_ticks_24 : decode prog_7_method_30_code 24 = .ok (.goto (7), 3) := by decide +kernel
theorem d_M_ticks_27 : decode prog_7_method_30_code 27 = .ok (.aload_n 0, 1) := by decide +kernel
theorem d_M_ticks_28 : decode prog_7_method_30_code 28 = .ok (.getfield 143, 3) := by decide +kernel
theorem d_M_ticks_31 : decode prog_7_method_30_code 31 = .ok (.ireturn, 1) := by decide +kernel
theorem d_M_turns_0 : decode prog_7_method_31_code 0 = .ok (.aload_n 0, 1) := by decide +kernel
theorem d_M_turns_1 : decode prog_7_method_31_code 1 = .ok (.aload_n 0, 1) := by decide +kernel
theorem d_M_turns_2 : decode prog_7_method_31_code 2 = .ok (.getfield 117, 3) := by decide +kernel
theorem d_M_turns_5 : decode prog_7_method_31_code 5 = .ok (.ifCond .ne (7), 3) := by decide +kernel
theorem d_M_turns_8 : decode prog_7_method_31_code 8 = .ok (.iconst 1, 1) := by decide +kernel
theorem d_M_turns_9 : decode prog_7_method_31_code 9 = .ok (.goto (16), 3) := by decide +kernel
theorem d_M_turns_12 : decode prog_7_method_31_code 12 = .ok (.aload_n 0, 1) := by decide +kernel
theorem d_M_turns_13 : decode prog_7_method_31_code 13 = .ok (.iload_n 1, 1) := by decide +kernel
theorem d_M_turns_14 : decode prog_7_method_31_code 14 = .ok (.invokevirtual 121, 3) := by decide +kernel
theorem d_M_turns_17 : decode prog_7_method_31_code 17 = .ok (.ifCond .eq (7), 3) := by decide +kernel
theorem d_M_turns_20 : decode prog_7_method_31_code 20 = .ok (.iconst 2, 1) := by decide +kernel
theorem d_M_turns_21 : decode prog_7_method_31_code 21 = .ok (.goto (4), 3) := by decide +kernel
theorem d_M_turns_24 : decode prog_7_method_31_code 24 = .ok (.iconst 0, 1) := by decide +kernel
theorem d_M_turns_25 : decode prog_7_method_31_code 25 = .ok (.putfield 110, 3) := by decide +kernel
theorem d_M_turns_28 : decode prog_7_method_31_code 28 = .ok (.aload_n 0, 1) := by decide +kernel
theorem d_M_turns_29 : decode prog_7_method_31_code 29 = .ok (.getfield 110, 3) := by decide +kernel
theorem d_M_turns_32 : decode prog_7_method_31_code 32 = .ok (.ifCond .le (7), 3) := by decide +kernel
theorem d_M_turns_35 : decode prog_7_method_31_code 35 = .ok (.iconst 0, 1) := by decide +kernel
theorem d_M_turns_36 : decode prog_7_method_31_code 36 = .ok (.goto (9), 3) := by decide +kernel
theorem d_M_turns_39 : decode prog_7_method_31_code 39 = .ok (.aload_n 0, 1) := by decide +kernel
theorem d_M_turns_40 : decode prog_7_method_31_code 40 = .ok (.getfield 65, 3) := by decide +kernel
theorem d_M_turns_43 : decode prog_7_method_31_code 43 = .ok (.iload_n 1, 1) := by decide +kernel
theorem d_M_turns_44 : decode prog_7_method_31_code 44 = .ok (.iaload, 1) := by decide +kernel
theorem d_M_turns_45 : decode prog_7_method_31_code 45 = .ok (.ireturn, 1) := by decide +kernel
theorem d_M_got_0 : decode prog_7_method_32_code 0 = .ok (.aload_n 0, 1) := by decide +kernel
theorem d_M_got_1 : decode prog_7_method_32_code 1 = .ok (.aload_n 0, 1) := by decide +kernel
theorem d_M_got_2 : decode prog_7_method_32_code 2 = .ok (.getfield 117, 3) := by decide +kernel
theorem d_M_got_5 : decode prog_7_method_32_code 5 = .ok (.ifCond .ne (7), 3) := by decide +kernel
theorem d_M_got_8 : decode prog_7_method_32_code 8 = .ok (.iconst 1, 1) := by decide +kernel
theorem d_M_got_9 : decode prog_7_method_32_code 9 = .ok (.goto (16), 3) := by decide +kernel
theorem d_M_got_12 : decode prog_7_method_32_code 12 = .ok (.aload_n 0, 1) := by decide +kernel
theorem d_M_got_13 : decode prog_7_method_32_code 13 = .ok (.iload_n 1, 1) := by decide +kernel
theorem d_M_got_14 : decode prog_7_method_32_code 14 = .ok (.invokevirtual 121, 3) := by decide +kernel
theorem d_M_got_17 : decode prog_7_method_32_code 17 = .ok (.ifCond .eq (7), 3) := by decide +kernel
theorem d_M_got_20 : decode prog_7_method_32_code 20 = .ok (.iconst 2, 1) := by decide +kernel
theorem d_M_got_21 : decode prog_7_method_32_code 21 = .ok (.goto (4), 3) := by decide +kernel
theorem d_M_got_24 : decode prog_7_method_32_code 24 = .ok (.iconst 0, 1) := by decide +kernel
theorem d_M_got_25 : decode prog_7_method_32_code 25 = .ok (.putfield 110, 3) := by decide +kernel
theorem d_M_got_28 : decode prog_7_method_32_code 28 = .ok (.iconst 0, 1) := by decide +kernel
theorem d_M_got_29 : decode prog_7_method_32_code 29 = .ok (.istore_n 2, 1) := by decide +kernel
theorem d_M_got_30 : decode prog_7_method_32_code 30 = .ok (.iconst 0, 1) := by decide +kernel
theorem d_M_got_31 : decode prog_7_method_32_code 31 = .ok (.istore_n 3, 1) := by decide +kernel
theorem d_M_got_32 : decode prog_7_method_32_code 32 = .ok (.iconst 0, 1) := by decide +kernel
theorem d_M_got_33 : decode prog_7_method_32_code 33 = .ok (.istore 4, 2) := by decide +kernel
theorem d_M_got_35 : decode prog_7_method_32_code 35 = .ok (.iload 4, 2) := by decide +kernel
theorem d_M_got_37 : decode prog_7_method_32_code 37 = .ok (.aload_n 0, 1) := by decide +kernel
theorem d_M_got_38 : decode prog_7_method_32_code 38 = .ok (.getfield 128, 3) := by decide +kernel
theorem d_M_got_41 : decode prog_7_method_32_code 41 = .ok (.if_icmp .ge (156), 3) := by decide +kernel
theorem d_M_got_44 : decode prog_7_method_32_code 44 = .ok (.aload_n 0, 1) := by decide +kernel
theorem d_M_got_45 : decode prog_7_method_32_code 45 = .ok (.getfield 110, 3) := by decide +kernel
theorem d_M_got_48 : decode prog_7_method_32_code 48 = .ok (.ifCond .ne (149), 3) := by decide +kernel
theorem d_M_got_51 : decode prog_7_method_32_code 51 = .ok (.iconst 0, 1) := by decide +kernel
theorem d_M_got_52 : decode prog_7_method_32_code 52 = .ok (.istore 5, 2) := by decide +kernel
theorem d_M_got_54 : decode prog_7_method_32_code 54 = .ok (.iload 5, 2) := by decide +kernel
theorem d_M_got_56 : decode prog_7_method_32_code 56 = .ok (.aload_n 0, 1) := by decide +kernel
theorem d_M_got_57 : decode prog_7_method_32_code 57 = .ok (.getfield 125, 3) := by decide +kernel
theorem d_M_got_60 : decode prog_7_method_32_code 60 = .ok (.if_icmp .ge (61), 3) := by decide +kernel
theorem d_M_got_63 : decode prog_7_method_32_code 63 = .ok (.aload_n 0, 1) := by decide +kernel
theorem d_M_got_64 : decode prog_7_method_32_code 64 = .ok (.getfield 28, 3) := by decide +kernel
theorem d_M_got_67 : decode prog_7_method_32_code 67 = .ok (.iload 5, 2) := by decide +kernel
theorem d_M_got_69 : decode prog_7_method_32_code 69 = .ok (.iaload, 1) := by decide +kernel
theorem d_M_got_70 : decode prog_7_method_32_code 70 = .ok (.iload 4, 2) := by decide +kernel
theorem d_M_got_72 : decode prog_7_method_32_code 72 = .ok (.if_icmp .ne (43), 3) := by decide +kernel
theorem d_M_got_75 : decode prog_7_method_32_code 75 = .ok (.aload_n 0, 1) := by decide +kernel
theorem d_M_got_76 : decode prog_7_method_32_code 76 = .ok (.getfield 16, 3) := by decide +kernel
theorem d_M_got_79 : decode prog_7_method_32_code 79 = .ok (.iload 5, 2) := by decide +kernel
theorem d_M_got_81 : decode prog_7_method_32_code 81 = .ok (.iaload, 1) := by decide +kernel
theorem d_M_got_82 : decode prog_7_method_32_code 82 = .ok (.iload_n 1, 1) := by decide +kernel
theorem d_M_got_83 : decode prog_7_method_32_code 83 = .ok (.if_icmp .ne (32), 3) := by decide +kernel
theorem d_M_got_86 : decode prog_7_method_32_code 86 = .ok (.aload_n 0, 1) := by decide +kernel
theorem d_M_got_87 : decode prog_7_method_32_code 87 = .ok (.getfield 59, 3) := by decide +kernel
theorem d_M_got_90 : decode prog_7_method_32_code 90 = .ok (.iload 5, 2) := by decide +kernel
theorem d_M_got_92 : decode prog_7_method_32_code 92 = .ok (.iaload, 1) := by decide +kernel
theorem d_M_got_93 : decode prog_7_method_32_code 93 = .ok (.aload_n 0, 1) := by decide +kernel
theorem d_M_got_94 : decode prog_7_method_32_code 94 = .ok (.getfield 65, 3) := by decide +kernel
theorem d_M_got_97 : decode prog_7_method_32_code 97 = .ok (.iload_n 1, 1) := by decide +kernel
theorem d_M_got_98 : decode prog_7_method_32_code 98 = .ok (.iaload, 1) := by decide +kernel
theorem d_M_got_99 : decode prog_7_method_32_code 99 = .ok (.if_icmp .le (11), 3) := by decide +kernel
theorem d_M_got_102 : decode prog_7_method_32_code 102 = .ok (.iload_n 2, 1) := by decide +kernel
theorem d_M_got_103 : decode prog_7_method_32_code 103 = .ok (.iconst 1, 1) := by decide +kernel
theorem d_M_got_104 : decode prog_7_method_32_code 104 = .ok (.iload_n 3, 1) := by decide +kernel
theorem d_M_got_105 : decode prog_7_method_32_code 105 = .ok (.ishl, 1) := by decide +kernel
theorem d_M_got_106 : decode prog_7_method_32_code 106 = .ok (.ior, 1) := by decide +kernel
theorem d_M_got_107 : decode prog_7_method_32_code 107 = .ok (.goto (4), 3) := by decide +kernel
theorem d_M_got_110 : decode prog_7_method_32_code 110 = .ok (.iload_n 2, 1) := by decide +kernel
theorem d_M_got_111 : decode prog_7_method_32_code 111 = .ok (.istore_n 2, 1) := by decide +kernel
theorem d_M_got_112 : decode prog_7_method_32_code 112 = .ok (.iinc 3 (1), 3) := by decide +kernel
theorem d_M_got_115 : decode prog_7_method_32_code 115 = .ok (.iinc 5 (1), 3) := by decide +kernel
theorem d_M_got_118 : decode prog_7_method_32_code 118 = .ok (.goto (-64), 3) := by decide +kernel
theorem d_M_got_121 : decode prog_7_method_32_code 121 = .ok (.iconst 0, 1) := by decide +kernel
theorem d_M_got_122 : decode prog_7_method_32_code 122 = .ok (.istore 5, 2) := by decide +kernel
theorem d_M_got_124 : decode prog_7_method_32_code 124 = .ok (.iload 5, 2) := by decide +kernel
theorem d_M_got_126 : decode prog_7_method_32_code 126 = .ok (.aload_n 0, 1) := by decide +kernel
theorem d_M_got_127 : decode prog_7_method_32_code 127 = .ok (.getfield 134, 3) := by decide +kernel
theorem d_M_got_130 : decode prog_7_method_32_code 130 = .ok (.if_icmp .ge (61), 3) := by decide +kernel
theorem d_M_got_133 : decode prog_7_method_32_code 133 = .ok (.aload_n 0, 1) := by decide +kernel
theorem d_M_got_134 : decode prog_7_method_32_code 134 = .ok (.getfield 40, 3) := by decide +kernel
theorem d_M_got_137 : decode prog_7_method_32_code 137 = .ok (.iload 5, 2) := by decide +kernel
theorem d_M_got_139 : decode prog_7_method_32_code 139 = .ok (.iaload, 1) := by decide +kernel
theorem d_M_got_140 : decode prog_7_method_32_code 140 = .ok (.iload 4, 2) := by decide +kernel
theorem d_M_got_142 : decode prog_7_method_32_code 142 = .ok (.if_icmp .ne (43), 3) := by decide +kernel
theorem d_M_got_145 : decode prog_7_method_32_code 145 = .ok (.aload_n 0, 1) := by decide +kernel
theorem d_M_got_146 : decode prog_7_method_32_code 146 = .ok (.getfield 37, 3) := by decide +kernel
theorem d_M_got_149 : decode prog_7_method_32_code 149 = .ok (.iload 5, 2) := by decide +kernel
theorem d_M_got_151 : decode prog_7_method_32_code 151 = .ok (.iaload, 1) := by decide +kernel
theorem d_M_got_152 : decode prog_7_method_32_code 152 = .ok (.iload_n 1, 1) := by decide +kernel
theorem d_M_got_153 : decode prog_7_method_32_code 153 = .ok (.if_icmp .ne (32), 3) := by decide +kernel
theorem d_M_got_156 : decode prog_7_method_32_code 156 = .ok (.aload_n 0, 1) := by decide +kernel
theorem d_M_got_157 : decode prog_7_method_32_code 157 = .ok (.getfield 83, 3) := by decide +kernel
theorem d_M_got_160 : decode prog_7_method_32_code 160 = .ok (.iload 5, 2) := by decide +kernel
theorem d_M_got_162 : decode prog_7_method_32_code 162 = .ok (.iaload, 1) := by decide +kernel
theorem d_M_got_163 : decode prog_7_method_32_code 163 = .ok (.aload_n 0, 1) := by decide +kernel
theorem d_M_got_164 : decode prog_7_method_32_code 164 = .ok (.getfield 65, 3) := by decide +kernel
theorem d_M_got_167 : decode prog_7_method_32_code 167 = .ok (.iload_n 1, 1) := by decide +kernel
theorem d_M_got_168 : decode prog_7_method_32_code 168 = .ok (.iaload, 1) := by decide +kernel
theorem d_M_got_169 : decode prog_7_method_32_code 169 = .ok (.if_icmp .le (11), 3) := by decide +kernel
theorem d_M_got_172 : decode prog_7_method_32_code 172 = .ok (.iload_n 2, 1) := by decide +kernel
theorem d_M_got_173 : decode prog_7_method_32_code 173 = .ok (.iconst 1, 1) := by decide +kernel
theorem d_M_got_174 : decode prog_7_method_32_code 174 = .ok (.iload_n 3, 1) := by decide +kernel
theorem d_M_got_175 : decode prog_7_method_32_code 175 = .ok (.ishl, 1) := by decide +kernel
theorem d_M_got_176 : decode prog_7_method_32_code 176 = .ok (.ior, 1) := by decide +kernel
theorem d_M_got_177 : decode prog_7_method_32_code 177 = .ok (.goto (4), 3) := by decide +kernel
theorem d_M_got_180 : decode prog_7_method_32_code 180 = .ok (.iload_n 2, 1) := by decide +kernel
theorem d_M_got_181 : decode prog_7_method_32_code 181 = .ok (.istore_n 2, 1) := by decide +kernel
theorem d_M_got_182 : decode prog_7_method_32_code 182 = .ok (.iinc 3 (1), 3) := by decide +kernel
theorem d_M_got_185 : decode prog_7_method_32_code 185 = .ok (.iinc 5 (1), 3) := by decide +kernel
theorem d_M_got_188 : decode prog_7_method_32_code 188 = .ok (.goto (-64), 3) := by decide +kernel
theorem d_M_got_191 : decode prog_7_method_32_code 191 = .ok (.iinc 4 (1), 3) := by decide +kernel
theorem d_M_got_194 : decode prog_7_method_32_code 194 = .ok (.goto (-159), 3) := by decide +kernel
theorem d_M_got_197 : decode prog_7_method_32_code 197 = .ok (.iload_n 2, 1) := by decide +kernel
theorem d_M_got_198 : decode prog_7_method_32_code 198 = .ok (.ireturn, 1) := by decide +kernel
theorem d_M_inside_0 : decode prog_7_method_33_code 0 = .ok (.aload_n 0, 1) := by decide +kernel
theorem d_M_inside_1 : decode prog_7_method_33_code 1 = .ok (.aload_n 0, 1) := by decide +kernel
theorem d_M_inside_2 : decode prog_7_method_33_code 2 = .ok (.getfield 117, 3) := by decide +kernel
theorem d_M_inside_5 : decode prog_7_method_33_code 5 = .ok (.ifCond .ne (7), 3) := by decide +kernel
theorem d_M_inside_8 : decode prog_7_method_33_code 8 = .ok (.iconst 1, 1) := by decide +kernel
theorem d_M_inside_9 : decode prog_7_method_33_code 9 = .ok (.goto (34), 3) := by decide +kernel
theorem d_M_inside_12 : decode prog_7_method_33_code 12 = .ok (.iload_n 1, 1) := by decide +kernel
theorem d_M_inside_13 : decode prog_7_method_33_code 13 = .ok (.ifCond .lt (25), 3) := by decide +kernel
theorem d_M_inside_16 : decode prog_7_method_33_code 16 = .ok (.iload_n 1, 1) := by decide +kernel
theorem d_M_inside_17 : decode prog_7_method_33_code 17 = .ok (.aload_n 0, 1) := by decide +kernel
theorem d_M_inside_18 : decode prog_7_method_33_code 18 = .ok (.getfield 125, 3) := by decide +kernel
theorem d_M_inside_21 : decode prog_7_method_33_code 21 = .ok (.if_icmp .ge (17), 3) := by decide +kernel
theorem d_M_inside_24 : decode prog_7_method_33_code 24 = .ok (.iload_n 2, 1) := by decide +kernel
theorem d_M_inside_25 : decode prog_7_method_33_code 25 = .ok (.ifCond .lt (13), 3) := by decide +kernel
theorem d_M_inside_28 : decode prog_7_method_33_code 28 = .ok (.iload_n 2, 1) := by decide +kernel
theorem d_M_inside_29 : decode prog_7_method_33_code 29 = .ok (.aload_n 0, 1) := by decide +kernel
theorem d_M_inside_30 : decode prog_7_method_33_code 30 = .ok (.getfield 25, 3) := by decide +kernel
theorem d_M_inside_33 : decode prog_7_method_33_code 33 = .ok (.iload_n 1, 1) := by decide +kernel
theorem d_M_inside_34 : decode prog_7_method_33_code 34 = .ok (.iaload, 1) := by decide +kernel
theorem d_M_inside_35 : decode prog_7_method_33_code 35 = .ok (.if_icmp .le (7), 3) := by decide +kernel
theorem d_M_inside_38 : decode prog_7_method_33_code 38 = .ok (.iconst 2, 1) := by decide +kernel
theorem d_M_inside_39 : decode prog_7_method_33_code 39 = .ok (.goto (4), 3) := by decide +kernel
theorem d_M_inside_42 : decode prog_7_method_33_code 42 = .ok (.iconst 0, 1) := by decide +kernel
theorem d_M_inside_43 : decode prog_7_method_33_code 43 = .ok (.putfield 110, 3) := by decide +kernel
theorem d_M_inside_46 : decode prog_7_method_33_code 46 = .ok (.aload_n 0, 1) := by decide +kernel
theorem d_M_inside_47 : decode prog_7_method_33_code 47 = .ok (.getfield 110, 3) := by decide +kernel
theorem d_M_inside_50 : decode prog_7_method_33_code 50 = .ok (.ifCond .le (7), 3) := by decide +kernel
theorem d_M_inside_53 : decode prog_7_method_33_code 53 = .ok (.iconst 0, 1) := by decide +kernel
theorem d_M_inside_54 : decode prog_7_method_33_code 54 = .ok (.goto (16), 3) := by decide +kernel
theorem d_M_inside_57 : decode prog_7_method_33_code 57 = .ok (.aload_n 0, 1) := by decide +kernel
theorem d_M_inside_58 : decode prog_7_method_33_code 58 = .ok (.iload_n 1, 1) := by decide +kernel
theorem d_M_inside_59 : decode prog_7_method_33_code 59 = .ok (.iload_n 2, 1) := by decide +kernel
theorem d_M_inside_60 : decode prog_7_method_33_code 60 = .ok (.invokevirtual 146, 3) := by decide +kernel
theorem d_M_inside_63 : decode prog_7_method_33_code 63 = .ok (.aload_n 0, 1) := by decide +kernel
theorem d_M_inside_64 : decode prog_7_method_33_code 64 = .ok (.iload_n 1, 1) := by decide +kernel
theorem d_M_inside_65 : decode prog_7_method_33_code 65 = .ok (.iload_n 2, 1) := by decide +kernel
theorem d_M_inside_66 : decode prog_7_method_33_code 66 = .ok (.invokevirtual 150, 3) := by decide +kernel
theorem d_M_inside_69 : decode prog_7_method_33_code 69 = .ok (.isub, 1) := by decide +kernel
theorem d_M_inside_70 : decode prog_7_method_33_code 70 = .ok (.ireturn, 1) := by decide +kernel
theorem d_M_taken_0 : decode prog_7_method_34_code 0 = .ok (.aload_n 0, 1) := by decide +kernel
theorem d_M_taken_1 : decode prog_7_method_34_code 1 = .ok (.aload_n 0, 1) := by decide +kernel
theorem d_M_taken_2 : decode prog_7_method_34_code 2 = .ok (.getfield 117, 3) := by decide +kernel
theorem d_M_taken_5 : decode prog_7_method_34_code 5 = .ok (.ifCond .ne (7), 3) := by decide +kernel
theorem d_M_taken_8 : decode prog_7_method_34_code 8 = .ok (.iconst 1, 1) := by decide +kernel
theorem d_M_taken_9 : decode prog_7_method_34_code 9 = .ok (.goto (20), 3) := by decide +kernel
theorem d_M_taken_12 : decode prog_7_method_34_code 12 = .ok (.iload_n 1, 1) := by decide +kernel
theorem d_M_taken_13 : decode prog_7_method_34_code 13 = .ok (.ifCond .lt (11), 3) := by decide +kernel
theorem d_M_taken_16 : decode prog_7_method_34_code 16 = .ok (.iload_n 1, 1) := by decide +kernel
theorem d_M_taken_17 : decode prog_7_method_34_code 17 = .ok (.aload_n 0, 1) := by decide +kernel
theorem d_M_taken_18 : decode prog_7_method_34_code 18 = .ok (.getfield 131, 3) := by decide +kernel
theorem d_M_taken_21 : decode prog_7_method_34_code 21 = .ok (.if_icmp .lt (7), 3) := by decide +kernel
theorem d_M_taken_24 : decode prog_7_method_34_code 24 = .ok (.iconst 2, 1) := by decide +kernel
theorem d_M_taken_25 : decode prog_7_method_34_code 25 = .ok (.goto (4), 3) := by decide +kernel
theorem d_M_taken_28 : decode prog_7_method_34_code 28 = .ok (.iconst 0, 1) := by decide +kernel
theorem d_M_taken_29 : decode prog_7_method_34_code 29 = .ok (.putfield 110, 3) := by decide +kernel
theorem d_M_taken_32 : decode prog_7_method_34_code 32 = .ok (.aload_n 0, 1) := by decide +kernel
theorem d_M_taken_33 : decode prog_7_method_34_code 33 = .ok (.getfield 110, 3) := by decide +kernel
theorem d_M_taken_36 : decode prog_7_method_34_code 36 = .ok (.ifCond .le (7), 3) := by decide +kernel
theorem d_M_taken_39 : decode prog_7_method_34_code 39 = .ok (.iconst 0, 1) := by decide +kernel
theorem d_M_taken_40 : decode prog_7_method_34_code 40 = .ok (.goto (14), 3) := by decide +kernel
theorem d_M_taken_43 : decode prog_7_method_34_code 43 = .ok (.aload_n 0, 1) := by decide +kernel
theorem d_M_taken_44 : decode prog_7_method_34_code 44 = .ok (.getfield 65, 3) := by decide +kernel
theorem d_M_taken_47 : decode prog_7_method_34_code 47 = .ok (.aload_n 0, 1) := by decide +kernel
theorem d_M_taken_48 : decode prog_7_method_34_code 48 = .ok (.getfield 31, 3) := by decide +kernel
theorem d_M_taken_51 : decode prog_7_method_34_code 51 = .ok (.iload_n 1, 1) := by decide +kernel
theorem d_M_taken_52 : decode prog_7_method_34_code 52 = .ok (.iaload, 1) := by decide +kernel
theorem d_M_taken_53 : decode prog_7_method_34_code 53 = .ok (.iaload, 1) := by decide +kernel
theorem d_M_taken_54 : decode prog_7_method_34_code 54 = .ok (.ireturn, 1) := by decide +kernel
theorem d_M_given_0 : decode prog_7_method_35_code 0 = .ok (.aload_n 0, 1) := by decide +kernel
theorem d_M_given_1 : decode prog_7_method_35_code 1 = .ok (.aload_n 0, 1) := by decide +kernel
theorem d_M_given_2 : decode prog_7_method_35_code 2 = .ok (.getfield 117, 3) := by decide +kernel
theorem d_M_given_5 : decode prog_7_method_35_code 5 = .ok (.ifCond .ne (7), 3) := by decide +kernel
theorem d_M_given_8 : decode prog_7_method_35_code 8 = .ok (.iconst 1, 1) := by decide +kernel
theorem d_M_given_9 : decode prog_7_method_35_code 9 = .ok (.goto (20), 3) := by decide +kernel
theorem d_M_given_12 : decode prog_7_method_35_code 12 = .ok (.iload_n 1, 1) := by decide +kernel
theorem d_M_given_13 : decode prog_7_method_35_code 13 = .ok (.ifCond .lt (11), 3) := by decide +kernel
theorem d_M_given_16 : decode prog_7_method_35_code 16 = .ok (.iload_n 1, 1) := by decide +kernel
theorem d_M_given_17 : decode prog_7_method_35_code 17 = .ok (.aload_n 0, 1) := by decide +kernel
theorem d_M_given_18 : decode prog_7_method_35_code 18 = .ok (.getfield 134, 3) := by decide +kernel
theorem d_M_given_21 : decode prog_7_method_35_code 21 = .ok (.if_icmp .lt (7), 3) := by decide +kernel
theorem d_M_given_24 : decode prog_7_method_35_code 24 = .ok (.iconst 2, 1) := by decide +kernel
theorem d_M_given_25 : decode prog_7_method_35_code 25 = .ok (.goto (4), 3) := by decide +kernel
theorem d_M_given_28 : decode prog_7_method_35_code 28 = .ok (.iconst 0, 1) := by decide +kernel
theorem d_M_given_29 : decode prog_7_method_35_code 29 = .ok (.putfield 110, 3) := by decide +kernel
theorem d_M_given_32 : decode prog_7_method_35_code 32 = .ok (.aload_n 0, 1) := by decide +kernel
theorem d_M_given_33 : decode prog_7_method_35_code 33 = .ok (.getfield 110, 3) := by decide +kernel
theorem d_M_given_36 : decode prog_7_method_35_code 36 = .ok (.ifCond .le (7), 3) := by decide +kernel
theorem d_M_given_39 : decode prog_7_method_35_code 39 = .ok (.iconst 0, 1) := by decide +kernel
theorem d_M_given_40 : decode prog_7_method_35_code 40 = .ok (.goto (9), 3) := by decide +kernel
theorem d_M_given_43 : decode prog_7_method_35_code 43 = .ok (.aload_n 0, 1) := by decide +kernel
theorem d_M_given_44 : decode prog_7_method_35_code 44 = .ok (.getfield 83, 3) := by decide +kernel
theorem d_M_given_47 : decode prog_7_method_35_code 47 = .ok (.iload_n 1, 1) := by decide +kernel
theorem d_M_given_48 : decode prog_7_method_35_code 48 = .ok (.iaload, 1) := by decide +kernel
theorem d_M_given_49 : decode prog_7_method_35_code 49 = .ok (.ireturn, 1) := by decide +kernel
theorem d_M_value_0 : decode prog_7_method_36_code 0 = .ok (.aload_n 0, 1) := by decide +kernel
theorem d_M_value_1 : decode prog_7_method_36_code 1 = .ok (.aload_n 0, 1) := by decide +kernel
theorem d_M_value_2 : decode prog_7_method_36_code 2 = .ok (.getfield 117, 3) := by decide +kernel
theorem d_M_value_5 : decode prog_7_method_36_code 5 = .ok (.ifCond .ne (7), 3) := by decide +kernel
theorem d_M_value_8 : decode prog_7_method_36_code 8 = .ok (.iconst 1, 1) := by decide +kernel
theorem d_M_value_9 : decode prog_7_method_36_code 9 = .ok (.goto (38), 3) := by decide +kernel
theorem d_M_value_12 : decode prog_7_method_36_code 12 = .ok (.iload_n 1, 1) := by decide +kernel
theorem d_M_value_13 : decode prog_7_method_36_code 13 = .ok (.ifCond .lt (11), 3) := by decide +kernel
theorem d_M_value_16 : decode prog_7_method_36_code 16 = .ok (.iload_n 1, 1) := by decide +kernel
theorem d_M_value_17 : decode prog_7_method_36_code 17 = .ok (.aload_n 0, 1) := by decide +kernel
theorem d_M_value_18 : decode prog_7_method_36_code 18 = .ok (.getfield 134, 3) := by decide +kernel
theorem d_M_value_21 : decode prog_7_method_36_code 21 = .ok (.if_icmp .lt (7), 3) := by decide +kernel
theorem d_M_value_24 : decode prog_7_method_36_code 24 = .ok (.iconst 2, 1) := by decide +kernel
theorem d_M_value_25 : decode prog_7_method_36_code 25 = .ok (.goto (22), 3) := by decide +kernel
theorem d_M_value_28 : decode prog_7_method_36_code 28 = .ok (.iload_n 2, 1) := by decide +kernel
theorem d_M_value_29 : decode prog_7_method_36_code 29 = .ok (.ifCond .lt (13), 3) := by decide +kernel
theorem d_M_value_32 : decode prog_7_method_36_code 32 = .ok (.iload_n 2, 1) := by decide +kernel
theorem d_M_value_33 : decode prog_7_method_36_code 33 = .ok (.aload_n 0, 1) := by decide +kernel
theorem d_M_value_34 : decode prog_7_method_36_code 34 = .ok (.getfield 83, 3) := by decide +kernel
theorem d_M_value_37 : decode prog_7_method_36_code 37 = .ok (.iload_n 1, 1) := by decide +kernel
theorem d_M_value_38 : decode prog_7_method_36_code 38 = .ok (.iaload, 1) := by decide +kernel
theorem d_M_value_39 : decode prog_7_method_36_code 39 = .ok (.if_icmp .lt (7), 3) := by decide +kernel
theorem d_M_value_42 : decode prog_7_method_36_code 42 = .ok (.iconst 3, 1) := by decide +kernel
theorem d_M_value_43 : decode prog_7_method_36_code 43 = .ok (.goto (4), 3) := by decide +kernel
theorem d_M_value_46 : decode prog_7_method_36_code 46 = .ok (.iconst 0, 1) := by decide +kernel
theorem d_M_value_47 : decode prog_7_method_36_code 47 = .ok (.putfield 110, 3) := by decide +kernel
theorem d_M_value_50 : decode prog_7_method_36_code 50 = .ok (.aload_n 0, 1) := by decide +kernel
theorem d_M_value_51 : decode prog_7_method_36_code 51 = .ok (.getfield 110, 3) := by decide +kernel
theorem d_M_value_54 : decode prog_7_method_36_code 54 = .ok (.ifCond .le (7), 3) := by decide +kernel
theorem d_M_value_57 : decode prog_7_method_36_code 57 = .ok (.lconst 0, 1) := by decide +kernel
theorem d_M_value_58 : decode prog_7_method_36_code 58 = .ok (.goto (37), 3) := by decide +kernel
theorem d_M_value_61 : decode prog_7_method_36_code 61 = .ok (.aload_n 0, 1) := by decide +kernel
theorem d_M_value_62 : decode prog_7_method_36_code 62 = .ok (.getfield 80, 3) := by decide +kernel
theorem d_M_value_65 : decode prog_7_method_36_code 65 = .ok (.sipush (1002), 3) := by decide +kernel
theorem d_M_value_68 : decode prog_7_method_36_code 68 = .ok (.iload_n 1, 1) := by decide +kernel
theorem d_M_value_69 : decode prog_7_method_36_code 69 = .ok (.imul, 1) := by decide +kernel
theorem d_M_value_70 : decode prog_7_method_36_code 70 = .ok (.iload_n 2, 1) := by decide +kernel
theorem d_M_value_71 : decode prog_7_method_36_code 71 = .ok (.iadd, 1) := by decide +kernel
theorem d_M_value_72 : decode prog_7_method_36_code 72 = .ok (.iaload, 1) := by decide +kernel
theorem d_M_value_73 : decode prog_7_method_36_code 73 = .ok (.i2l, 1) := by decide +kernel
theorem d_M_value_74 : decode prog_7_method_36_code 74 = .ok (.bipush (32), 2) := by decide +kernel
theorem d_M_value_76 : decode prog_7_method_36_code 76 = .ok (.lshl, 1) := by decide +kernel
theorem d_M_value_77 : decode prog_7_method_36_code 77 = .ok (.aload_n 0, 1) := by decide +kernel
theorem d_M_value_78 : decode prog_7_method_36_code 78 = .ok (.getfield 77, 3) := by decide +kernel
theorem d_M_value_81 : decode prog_7_method_36_code 81 = .ok (.sipush (1002), 3) := by decide +kernel
theorem d_M_value_84 : decode prog_7_method_36_code 84 = .ok (.iload_n 1, 1) := by decide +kernel
theorem d_M_value_85 : decode prog_7_method_36_code 85 = .ok (.imul, 1) := by decide +kernel
theorem d_M_value_86 : decode prog_7_method_36_code 86 = .ok (.iload_n 2, 1) := by decide +kernel
theorem d_M_value_87 : decode prog_7_method_36_code 87 = .ok (.iadd, 1) := by decide +kernel
theorem d_M_value_88 : decode prog_7_method_36_code 88 = .ok (.iaload, 1) := by decide +kernel
theorem d_M_value_89 : decode prog_7_method_36_code 89 = .ok (.i2l, 1) := by decide +kernel
theorem d_M_value_90 : decode prog_7_method_36_code 90 = .ok (.ldc2_w 195, 3) := by decide +kernel
theorem d_M_value_93 : decode prog_7_method_36_code 93 = .ok (.land, 1) := by decide +kernel
theorem d_M_value_94 : decode prog_7_method_36_code 94 = .ok (.lor, 1) := by decide +kernel
theorem d_M_value_95 : decode prog_7_method_36_code 95 = .ok (.lreturn, 1) := by decide +kernel
theorem d_M_makeByClock_0 : decode prog_7_method_37_code 0 = .ok (.aload_n 0, 1) := by decide +kernel
theorem d_M_makeByClock_1 : decode prog_7_method_37_code 1 = .ok (.getfield 13, 3) := by decide +kernel
theorem d_M_makeByClock_4 : decode prog_7_method_37_code 4 = .ok (.iload_n 1, 1) := by decide +kernel
theorem d_M_makeByClock_5 : decode prog_7_method_37_code 5 = .ok (.iaload, 1) := by decide +kernel
theorem d_M_makeByClock_6 : decode prog_7_method_37_code 6 = .ok (.istore_n 3, 1) := by decide +kernel
theorem d_M_makeByClock_7 : decode prog_7_method_37_code 7 = .ok (.iconst 0, 1) := by decide +kernel
theorem d_M_makeByClock_8 : decode prog_7_method_37_code 8 = .ok (.istore 4, 2) := by decide +kernel
theorem d_M_makeByClock_10 : decode prog_7_method_37_code 10 = .ok (.iload 4, 2) := by decide +kernel
theorem d_M_makeByClock_12 : decode prog_7_method_37_code 12 = .ok (.aload_n 0, 1) := by decide +kernel
theorem d_M_makeByClock_13 : decode prog_7_method_37_code 13 = .ok (.getfield 128, 3) := by decide +kernel
theorem d_M_makeByClock_16 : decode prog_7_method_37_code 16 = .ok (.if_icmp .ge (133), 3) := by decide +kernel
theorem d_M_makeByClock_19 : decode prog_7_method_37_code 19 = .ok (.iconst 0, 1) := by decide +kernel
theorem d_M_makeByClock_20 : decode prog_7_method_37_code 20 = .ok (.istore 5, 2) := by decide +kernel
theorem d_M_makeByClock_22 : decode prog_7_method_37_code 22 = .ok (.iload 5, 2) := by decide +kernel
theorem d_M_makeByClock_24 : decode prog_7_method_37_code 24 = .ok (.aload_n 0, 1) := by decide +kernel
theorem d_M_makeByClock_25 : decode prog_7_method_37_code 25 = .ok (.getfield 125, 3) := by decide +kernel
theorem d_M_makeByClock_28 : decode prog_7_method_37_code 28 = .ok (.if_icmp .ge (50), 3) := by decide +kernel
theorem d_M_makeByClock_31 : decode prog_7_method_37_code 31 = .ok (.aload_n 0, 1) := by decide +kernel
theorem d_M_makeByClock_32 : decode prog_7_method_37_code 32 = .ok (.getfield 28, 3) := by decide +kernel
theorem d_M_makeByClock_35 : decode prog_7_method_37_code 35 = .ok (.iload 5, 2) := by decide +kernel
theorem d_M_makeByClock_37 : decode prog_7_method_37_code 37 = .ok (.iaload, 1) := by decide +kernel
theorem d_M_makeByClock_38 : decode prog_7_method_37_code 38 = .ok (.iload 4, 2) := by decide +kernel
theorem d_M_makeByClock_40 : decode prog_7_method_37_code 40 = .ok (.if_icmp .ne (32), 3) := by decide +kernel
theorem d_M_makeByClock_43 : decode prog_7_method_37_code 43 = .ok (.aload_n 0, 1) := by decide +kernel
theorem d_M_makeByClock_44 : decode prog_7_method_37_code 44 = .ok (.getfield 19, 3) := by decide +kernel
theorem d_M_makeByClock_47 : decode prog_7_method_37_code 47 = .ok (.iload 5, 2) := by decide +kernel
theorem d_M_makeByClock_49 : decode prog_7_method_37_code 49 = .ok (.iaload, 1) := by decide +kernel
theorem d_M_makeByClock_50 : decode prog_7_method_37_code 50 = .ok (.iload_n 1, 1) := by decide +kernel
theorem d_M_makeByClock_51 : decode prog_7_method_37_code 51 = .ok (.if_icmp .ne (21), 3) := by decide +kernel
theorem d_M_makeByClock_54 : decode prog_7_method_37_code 54 = .ok (.aload_n 0, 1) := by decide +kernel
theorem d_M_makeByClock_55 : decode prog_7_method_37_code 55 = .ok (.getfield 7, 3) := by decide +kernel
theorem d_M_makeByClock_58 : decode prog_7_method_37_code 58 = .ok (.iload_n 1, 1) := by decide +kernel
theorem d_M_makeByClock_59 : decode prog_7_method_37_code 59 = .ok (.iaload, 1) := by decide +kernel
theorem d_M_makeByClock_60 : decode prog_7_method_37_code 60 = .ok (.iload_n 3, 1) := by decide +kernel
theorem d_M_makeByClock_61 : decode prog_7_method_37_code 61 = .ok (.aload_n 0, 1) := by decide +kernel
theorem d_M_makeByClock_62 : decode prog_7_method_37_code 62 = .ok (.getfield 86, 3) := by decide +kernel
theorem d_M_makeByClock_65 : decode prog_7_method_37_code 65 = .ok (.iload 5, 2) := by decide +kernel
theorem d_M_makeByClock_67 : decode prog_7_method_37_code 67 = .ok (.iaload, 1) := by decide +kernel
theorem d_M_makeByClock_68 : decode prog_7_method_37_code 68 = .ok (.invokestatic 164, 3) := by decide +kernel
theorem d_M_makeByClock_71 : decode prog_7_method_37_code 71 = .ok (.istore_n 3, 1) := by decide +kernel
theorem d_M_makeByClock_72 : decode prog_7_method_37_code 72 = .ok (.iinc 5 (1), 3) := by decide +kernel
theorem d_M_makeByClock_75 : decode prog_7_method_37_code 75 = .ok (.goto (-53), 3) := by decide +kernel
theorem d_M_makeByClock_78 : decode prog_7_method_37_code 78 = .ok (.iconst 0, 1) := by decide +kernel
theorem d_M_makeByClock_79 : decode prog_7_method_37_code 79 = .ok (.istore 5, 2) := by decide +kernel
theorem d_M_makeByClock_81 : decode prog_7_method_37_code 81 = .ok (.iload 5, 2) := by decide +kernel
theorem d_M_makeByClock_83 : decode prog_7_method_37_code 83 = .ok (.aload_n 0, 1) := by decide +kernel
theorem d_M_makeByClock_84 : decode prog_7_method_37_code 84 = .ok (.getfield 131, 3) := by decide +kernel
theorem d_M_makeByClock_87 : decode prog_7_method_37_code 87 = .ok (.if_icmp .ge (56), 3) := by decide +kernel
theorem d_M_makeByClock_90 : decode prog_7_method_37_code 90 = .ok (.aload_n 0, 1) := by decide +kernel
theorem d_M_makeByClock_91 : decode prog_7_method_37_code 91 = .ok (.getfield 34, 3) := by decide +kernel
theorem d_M_makeByClock_94 : decode prog_7_method_37_code 94 = .ok (.iload 5, 2) := by decide +kernel
theorem d_M_makeByClock_96 : decode prog_7_method_37_code 96 = .ok (.iaload, 1) := by decide +kernel
theorem d_M_makeByClock_97 : decode prog_7_method_37_code 97 = .ok (.iload 4, 2) := by decide +kernel
theorem d_M_makeByClock_99 : decode prog_7_method_37_code 99 = .ok (.if_icmp .ne (38), 3) := by decide +kernel
theorem d_M_makeByClock_102 : decode prog_7_method_37_code 102 = .ok (.aload_n 0, 1) := by decide +kernel
theorem d_M_makeByClock_103 : decode prog_7_method_37_code 103 = .ok (.getfield 31, 3) := by decide +kernel
theorem d_M_makeByClock_106 : decode prog_7_method_37_code 106 = .ok (.iload 5, 2) := by decide +kernel
theorem d_M_makeByClock_108 : decode prog_7_method_37_code 108 = .ok (.iaload, 1) := by decide +kernel
theorem d_M_makeByClock_109 : decode prog_7_method_37_code 109 = .ok (.iload_n 1, 1) := by decide +kernel
theorem d_M_makeByClock_110 : decode prog_7_method_37_code 110 = .ok (.if_icmp .ne (27), 3) := by decide +kernel
theorem d_M_makeByClock_113 : decode prog_7_method_37_code 113 = .ok (.aload_n 0, 1) := by decide +kernel
theorem d_M_makeByClock_114 : decode prog_7_method_37_code 114 = .ok (.getfield 7, 3) := by decide +kernel
theorem d_M_makeByClock_117 : decode prog_7_method_37_code 117 = .ok (.iload_n 1, 1) := by decide +kernel
theorem d_M_makeByClock_118 : decode prog_7_method_37_code 118 = .ok (.iaload, 1) := by decide +kernel
theorem d_M_makeByClock_119 : decode prog_7_method_37_code 119 = .ok (.iload_n 3, 1) := by decide +kernel
theorem d_M_makeByClock_120 : decode prog_7_method_37_code 120 = .ok (.aload_n 0, 1) := by decide +kernel
theorem d_M_makeByClock_121 : decode prog_7_method_37_code 121 = .ok (.getfield 68, 3) := by decide +kernel
theorem d_M_makeByClock_124 : decode prog_7_method_37_code 124 = .ok (.sipush (1002), 3) := by decide +kernel
theorem d_M_makeByClock_127 : decode prog_7_method_37_code 127 = .ok (.iload 5, 2) := by decide +kernel
theorem d_M_makeByClock_129 : decode prog_7_method_37_code 129 = .ok (.imul, 1) := by decide +kernel
theorem d_M_makeByClock_130 : decode prog_7_method_37_code 130 = .ok (.iload_n 2, 1) := by decide +kernel
theorem d_M_makeByClock_131 : decode prog_7_method_37_code 131 = .ok (.iadd, 1) := by decide +kernel
theorem d_M_makeByClock_132 : decode prog_7_method_37_code 132 = .ok (.iaload, 1) := by decide +kernel
theorem d_M_makeByClock_133 : decode prog_7_method_37_code 133 = .ok (.invokestatic 164, 3) := by decide +kernel
theorem d_M_makeByClock_136 : decode prog_7_method_37_code 136 = .ok (.istore_n 3, 1) := by decide +kernel
theorem d_M_makeByClock_137 : decode prog_7_method_37_code 137 = .ok (.iinc 5 (1), 3) := by decide +kernel
theorem d_M_makeByClock_140 : decode prog_7_method_37_code 140 = .ok (.goto (-59), 3) := by decide +kernel
theorem d_M_makeByClock_143 : decode prog_7_method_37_code 143 = .ok (.iinc 4 (1), 3) := by decide +kernel
theorem d_M_makeByClock_146 : decode prog_7_method_37_code 146 = .ok (.goto (-136), 3) := by decide +kernel
theorem d_M_makeByClock_149 : decode prog_7_method_37_code 149 = .ok (.iload_n 3, 1) := by decide +kernel
theorem d_M_makeByClock_150 : decode prog_7_method_37_code 150 = .ok (.ireturn, 1) := by decide +kernel
theorem d_M_byClock_0 : decode prog_7_method_38_code 0 = .ok (.aload_n 0, 1) := by decide +kernel
theorem d_M_byClock_1 : decode prog_7_method_38_code 1 = .ok (.aload_n 0, 1) := by decide +kernel
theorem d_M_byClock_2 : decode prog_7_method_38_code 2 = .ok (.getfield 117, 3) := by decide +kernel
theorem d_M_byClock_5 : decode prog_7_method_38_code 5 = .ok (.ifCond .ne (7), 3) := by decide +kernel
theorem d_M_byClock_8 : decode prog_7_method_38_code 8 = .ok (.iconst 1, 1) := by decide +kernel
theorem d_M_byClock_9 : decode prog_7_method_38_code 9 = .ok (.goto (35), 3) := by decide +kernel
theorem d_M_byClock_12 : decode prog_7_method_38_code 12 = .ok (.iload_n 1, 1) := by decide +kernel
theorem d_M_byClock_13 : decode prog_7_method_38_code 13 = .ok (.ifCond .lt (11), 3) := by decide +kernel
theorem d_M_byClock_16 : decode prog_7_method_38_code 16 = .ok (.iload_n 1, 1) := by decide +kernel
theorem d_M_byClock_17 : decode prog_7_method_38_code 17 = .ok (.aload_n 0, 1) := by decide +kernel
theorem d_M_byClock_18 : decode prog_7_method_38_code 18 = .ok (.getfield 134, 3) := by decide +kernel
theorem d_M_byClock_21 : decode prog_7_method_38_code 21 = .ok (.if_icmp .lt (7), 3) := by decide +kernel
theorem d_M_byClock_24 : decode prog_7_method_38_code 24 = .ok (.iconst 2, 1) := by decide +kernel
theorem d_M_byClock_25 : decode prog_7_method_38_code 25 = .ok (.goto (19), 3) := by decide +kernel
theorem d_M_byClock_28 : decode prog_7_method_38_code 28 = .ok (.iload_n 2, 1) := by decide +kernel
theorem d_M_byClock_29 : decode prog_7_method_38_code 29 = .ok (.ifCond .lt (10), 3) := by decide +kernel
theorem d_M_byClock_32 : decode prog_7_method_38_code 32 = .ok (.iload_n 2, 1) := by decide +kernel
theorem d_M_byClock_33 : decode prog_7_method_38_code 33 = .ok (.sipush (1000), 3) := by decide +kernel
theorem d_M_byClock_36 : decode prog_7_method_38_code 36 = .ok (.if_icmp .lt (7), 3) := by decide +kernel
theorem d_M_byClock_39 : decode prog_7_method_38_code 39 = .ok (.iconst 3, 1) := by decide +kernel
theorem d_M_byClock_40 : decode prog_7_method_38_code 40 = .ok (.goto (4), 3) := by decide +kernel
theorem d_M_byClock_43 : decode prog_7_method_38_code 43 = .ok (.iconst 0, 1) := by decide +kernel
theorem d_M_byClock_44 : decode prog_7_method_38_code 44 = .ok (.putfield 110, 3) := by decide +kernel
theorem d_M_byClock_47 : decode prog_7_method_38_code 47 = .ok (.iconst 0, 1) := by decide +kernel
theorem d_M_byClock_48 : decode prog_7_method_38_code 48 = .ok (.istore_n 3, 1) := by decide +kernel
theorem d_M_byClock_49 : decode prog_7_method_38_code 49 = .ok (.iload_n 3, 1) := by decide +kernel
theorem d_M_byClock_50 : decode prog_7_method_38_code 50 = .ok (.aload_n 0, 1) := by decide +kernel
theorem d_M_byClock_51 : decode prog_7_method_38_code 51 = .ok (.getfield 131, 3) := by decide +kernel
theorem d_M_byClock_54 : decode prog_7_method_38_code 54 = .ok (.if_icmp .ge (40), 3) := by decide +kernel
theorem d_M_byClock_57 : decode prog_7_method_38_code 57 = .ok (.aload_n 0, 1) := by decide +kernel
theorem d_M_byClock_58 : decode prog_7_method_38_code 58 = .ok (.getfield 110, 3) := by decide +kernel
theorem d_M_byClock_61 : decode prog_7_method_38_code 61 = .ok (.ifCond .ne (33), 3) := by decide +kernel
theorem d_M_byClock_64 : decode prog_7_method_38_code 64 = .ok (.aload_n 0, 1) := by decide +kernel
theorem d_M_byClock_65 : decode prog_7_method_38_code 65 = .ok (.aload_n 0, 1) := by decide +kernel
theorem d_M_byClock_66 : decode prog_7_method_38_code 66 = .ok (.getfield 65, 3) := by decide +kernel
theorem d_M_byClock_69 : decode prog_7_method_38_code 69 = .ok (.aload_n 0, 1) := by decide +kernel
theorem d_M_byClock_70 : decode prog_7_method_38_code 70 = .ok (.getfield 31, 3) := by decide +kernel
theorem d_M_byClock_73 : decode prog_7_method_38_code 73 = .ok (.iload_n 3, 1) := by decide +kernel
theorem d_M_byClock_74 : decode prog_7_method_38_code 74 = .ok (.iaload, 1) := by decide +kernel
theorem d_M_byClock_75 : decode prog_7_method_38_code 75 = .ok (.iaload, 1) := by decide +kernel
theorem d_M_byClock_76 : decode prog_7_method_38_code 76 = .ok (.iload_n 2, 1) := by decide +kernel
theorem d_M_byClock_77 : decode prog_7_method_38_code 77 = .ok (.if_icmp .gt (7), 3) := by decide +kernel
theorem d_M_byClock_80 : decode prog_7_method_38_code 80 = .ok (.iconst 3, 1) := by decide +kernel
theorem d_M_byClock_81 : decode prog_7_method_38_code 81 = .ok (.goto (4), 3) := by decide +kernel
theorem d_M_byClock_84 : decode prog_7_method_38_code 84 = .ok (.iconst 0, 1) := by decide +kernel
theorem d_M_byClock_85 : decode prog_7_method_38_code 85 = .ok (.putfield 110, 3) := by decide +kernel
theorem d_M_byClock_88 : decode prog_7_method_38_code 88 = .ok (.iinc 3 (1), 3) := by decide +kernel
theorem d_M_byClock_91 : decode prog_7_method_38_code 91 = .ok (.goto (-42), 3) := by decide +kernel
theorem d_M_byClock_94 : decode prog_7_method_38_code 94 = .ok (.aload_n 0, 1) := by decide +kernel
theorem d_M_byClock_95 : decode prog_7_method_38_code 95 = .ok (.getfield 110, 3) := by decide +kernel
theorem d_M_byClock_98 : decode prog_7_method_38_code 98 = .ok (.ifCond .le (5), 3) := by decide +kernel
theorem d_M_byClock_101 : decode prog_7_method_38_code 101 = .ok (.iconst 0, 1) := by decide +kernel
theorem d_M_byClock_102 : decode prog_7_method_38_code 102 = .ok (.ireturn, 1) := by decide +kernel
theorem d_M_byClock_103 : decode prog_7_method_38_code 103 = .ok (.iconst 0, 1) := by decide +kernel
theorem d_M_byClock_104 : decode prog_7_method_38_code 104 = .ok (.istore_n 3, 1) := by decide +kernel
theorem d_M_byClock_105 : decode prog_7_method_38_code 105 = .ok (.iload_n 3, 1) := by decide +kernel
theorem d_M_byClock_106 : decode prog_7_method_38_code 106 = .ok (.aload_n 0, 1) := by decide +kernel
theorem d_M_byClock_107 : decode prog_7_method_38_code 107 = .ok (.getfield 125, 3) := by decide +kernel
theorem d_M_byClock_110 : decode prog_7_method_38_code 110 = .ok (.if_icmp .ge (21), 3) := by decide +kernel
theorem d_M_byClock_113 : decode prog_7_method_38_code 113 = .ok (.aload_n 0, 1) := by decide +kernel
theorem d_M_byClock_114 : decode prog_7_method_38_code 114 = .ok (.getfield 86, 3) := by decide +kernel
theorem d_M_byClock_117 : decode prog_7_method_38_code 117 = .ok (.iload_n 3, 1) := by decide +kernel
theorem d_M_byClock_118 : decode prog_7_method_38_code 118 = .ok (.aload_n 0, 1) := by decide +kernel
theorem d_M_byClock_119 : decode prog_7_method_38_code 119 = .ok (.getfield 22, 3) := by decide +kernel
theorem d_M_byClock_122 : decode prog_7_method_38_code 122 = .ok (.iload_n 3, 1) := by decide +kernel
theorem d_M_byClock_123 : decode prog_7_method_38_code 123 = .ok (.iaload, 1) := by decide +kernel
theorem d_M_byClock_124 : decode prog_7_method_38_code 124 = .ok (.iastore, 1) := by decide +kernel
theorem d_M_byClock_125 : decode prog_7_method_38_code 125 = .ok (.iinc 3 (1), 3) := by decide +kernel
theorem d_M_byClock_128 : decode prog_7_method_38_code 128 = .ok (.goto (-23), 3) := by decide +kernel
theorem d_M_byClock_131 : decode prog_7_method_38_code 131 = .ok (.iconst 0, 1) := by decide +kernel
theorem d_M_byClock_132 : decode prog_7_method_38_code 132 = .ok (.istore_n 3, 1) := by decide +kernel
theorem d_M_byClock_133 : decode prog_7_method_38_code 133 = .ok (.iload_n 3, 1) := by decide +kernel
theorem d_M_byClock_134 : decode prog_7_method_38_code 134 = .ok (.iload_n 2, 1) := by decide +kernel
theorem d_M_byClock_135 : decode prog_7_method_38_code 135 = .ok (.if_icmp .gt (78), 3) := by decide +kernel
theorem d_M_byClock_138 : decode prog_7_method_38_code 138 = .ok (.iconst 0, 1) := by decide +kernel
theorem d_M_byClock_139 : decode prog_7_method_38_code 139 = .ok (.istore 4, 2) := by decide +kernel
theorem d_M_byClock_141 : decode prog_7_method_38_code 141 = .ok (.iload 4, 2) := by decide +kernel
theorem d_M_byClock_143 : decode prog_7_method_38_code 143 = .ok (.aload_n 0, 1) := by decide +kernel
theorem d_M_byClock_144 : decode prog_7_method_38_code 144 = .ok (.getfield 114, 3) := by decide +kernel
theorem d_M_byClock_147 : decode prog_7_method_38_code 147 = .ok (.if_icmp .ge (23), 3) := by decide +kernel
theorem d_M_byClock_150 : decode prog_7_method_38_code 150 = .ok (.aload_n 0, 1) := by decide +kernel
theorem d_M_byClock_151 : decode prog_7_method_38_code 151 = .ok (.getfield 89, 3) := by decide +kernel
theorem d_M_byClock_154 : decode prog_7_method_38_code 154 = .ok (.iload 4, 2) := by decide +kernel
theorem d_M_byClock_156 : decode prog_7_method_38_code 156 = .ok (.aload_n 0, 1) := by decide +kernel
theorem d_M_byClock_157 : decode prog_7_method_38_code 157 = .ok (.iload 4, 2) := by decide +kernel
theorem d_M_byClock_159 : decode prog_7_method_38_code 159 = .ok (.iload_n 3, 1) := by decide +kernel
theorem d_M_byClock_160 : decode prog_7_method_38_code 160 = .ok (.invokevirtual 197, 3) := by decide +kernel
theorem d_M_byClock_163 : decode prog_7_method_38_code 163 = .ok (.iastore, 1) := by decide +kernel
theorem d_M_byClock_164 : decode prog_7_method_38_code 164 = .ok (.iinc 4 (1), 3) := by decide +kernel
theorem d_M_byClock_167 : decode prog_7_method_38_code 167 = .ok (.goto (-26), 3) := by decide +kernel
theorem d_M_byClock_170 : decode prog_7_method_38_code 170 = .ok (.iconst 0, 1) := by decide +kernel
theorem d_M_byClock_171 : decode prog_7_method_38_code 171 = .ok (.istore 4, 2) := by decide +kernel
theorem d_M_byClock_173 : decode prog_7_method_38_code 173 = .ok (.iload 4, 2) := by decide +kernel
theorem d_M_byClock_175 : decode prog_7_method_38_code 175 = .ok (.aload_n 0, 1) := by decide +kernel
theorem d_M_byClock_176 : decode prog_7_method_38_code 176 = .ok (.getfield 125, 3) := by decide +kernel
theorem d_M_byClock_179 : decode prog_7_method_38_code 179 = .ok (.if_icmp .ge (28), 3) := by decide +kernel
theorem d_M_byClock_182 : decode prog_7_method_38_code 182 = .ok (.aload_n 0, 1) := by decide +kernel
theorem d_M_byClock_183 : decode prog_7_method_38_code 183 = .ok (.getfield 86, 3) := by decide +kernel
theorem d_M_byClock_186 : decode prog_7_method_38_code 186 = .ok (.iload 4, 2) := by decide +kernel
theorem d_M_byClock_188 : decode prog_7_method_38_code 188 = .ok (.aload_n 0, 1) := by decide +kernel
theorem d_M_byClock_189 : decode prog_7_method_38_code 189 = .ok (.getfield 89, 3) := by decide +kernel
theorem d_M_byClock_192 : decode prog_7_method_38_code 192 = .ok (.aload_n 0, 1) := by decide +kernel
theorem d_M_byClock_193 : decode prog_7_method_38_code 193 = .ok (.getfield 16, 3) := by decide +kernel
theorem d_M_byClock_196 : decode prog_7_method_38_code 196 = .ok (.iload 4, 2) := by decide +kernel
theorem d_M_byClock_198 : decode prog_7_method_38_code 198 = .ok (.iaload, 1) := by decide +kernel
theorem d_M_byClock_199 : decode prog_7_method_38_code 199 = .ok (.iaload, 1) := by decide +kernel
theorem d_M_byClock_200 : decode prog_7_method_38_code 200 = .ok (.iastore, 1) := by decide +kernel
theorem d_M_byClock_201 : decode prog_7_method_38_code 201 = .ok (.iinc 4 (1), 3) := by decide +kernel
theorem d_M_byClock_204 : decode prog_7_method_38_code 204 = .ok (.goto (-31), 3) := by decide +kernel
theorem d_M_byClock_207 : decode prog_7_method_38_code 207 = .ok (.iinc 3 (1), 3) := by decide +kernel
theorem d_M_byClock_210 : decode prog_7_method_38_code 210 = .ok (.goto (-77), 3) := by decide +kernel
theorem d_M_byClock_213 : decode prog_7_method_38_code 213 = .ok (.aload_n 0, 1) := by decide +kernel
theorem d_M_byClock_214 : decode prog_7_method_38_code 214 = .ok (.getfield 89, 3) := by decide +kernel
theorem d_M_byClock_217 : decode prog_7_method_38_code 217 = .ok (.aload_n 0, 1) := by decide +kernel
theorem d_M_byClock_218 : decode prog_7_method_38_code 218 = .ok (.getfield 37, 3) := by decide +kernel
theorem d_M_byClock_221 : decode prog_7_method_38_code 221 = .ok (.iload_n 1, 1) := by decide +kernel
theorem d_M_byClock_222 : decode prog_7_method_38_code 222 = .ok (.iaload, 1) := by decide +kernel
theorem d_M_byClock_223 : decode prog_7_method_38_code 223 = .ok (.iaload, 1) := by decide +kernel
theorem d_M_byClock_224 : decode prog_7_method_38_code 224 = .ok (.ireturn, 1) := by decide +kernel
theorem d_M_arc_0 : decode prog_7_method_39_code 0 = .ok (.aload_n 0, 1) := by decide +kernel
theorem d_M_arc_1 : decode prog_7_method_39_code 1 = .ok (.getfield 92, 3) := by decide +kernel
theorem d_M_arc_4 : decode prog_7_method_39_code 4 = .ok (.aload_n 0, 1) := by decide +kernel
theorem d_M_arc_5 : decode prog_7_method_39_code 5 = .ok (.getfield 200, 3) := by decide +kernel
theorem d_M_arc_8 : decode prog_7_method_39_code 8 = .ok (.iload_n 1, 1) := by decide +kernel
theorem d_M_arc_9 : decode prog_7_method_39_code 9 = .ok (.iastore, 1) := by decide +kernel
theorem d_M_arc_10 : decode prog_7_method_39_code 10 = .ok (.aload_n 0, 1) := by decide +kernel
theorem d_M_arc_11 : decode prog_7_method_39_code 11 = .ok (.getfield 95, 3) := by decide +kernel
theorem d_M_arc_14 : decode prog_7_method_39_code 14 = .ok (.aload_n 0, 1) := by decide +kernel
theorem d_M_arc_15 : decode prog_7_method_39_code 15 = .ok (.getfield 200, 3) := by decide +kernel
theorem d_M_arc_18 : decode prog_7_method_39_code 18 = .ok (.iload_n 2, 1) := by decide +kernel
theorem d_M_arc_19 : decode prog_7_method_39_code 19 = .ok (.iastore, 1) := by decide +kernel
theorem d_M_arc_20 : decode prog_7_method_39_code 20 = .ok (.aload_n 0, 1) := by decide +kernel
theorem d_M_arc_21 : decode prog_7_method_39_code 21 = .ok (.getfield 98, 3) := by decide +kernel
theorem d_M_arc_24 : decode prog_7_method_39_code 24 = .ok (.aload_n 0, 1) := by decide +kernel
theorem d_M_arc_25 : decode prog_7_method_39_code 25 = .ok (.getfield 200, 3) := by decide +kernel
theorem d_M_arc_28 : decode prog_7_method_39_code 28 = .ok (.iload_n 3, 1) := by decide +kernel
theorem d_M_arc_29 : decode prog_7_method_39_code 29 = .ok (.iastore, 1) := by decide +kernel
theorem d_M_arc_30 : decode prog_7_method_39_code 30 = .ok (.aload_n 0, 1) := by decide +kernel
theorem d_M_arc_31 : decode prog_7_method_39_code 31 = .ok (.getfield 101, 3) := by decide +kernel
theorem d_M_arc_34 : decode prog_7_method_39_code 34 = .ok (.aload_n 0, 1) := by decide +kernel
theorem d_M_arc_35 : decode prog_7_method_39_code 35 = .ok (.getfield 200, 3) := by decide +kernel
theorem d_M_arc_38 : decode prog_7_method_39_code 38 = .ok (.iload 4, 2) := by decide +kernel
theorem d_M_arc_40 : decode prog_7_method_39_code 40 = .ok (.iastore, 1) := by decide +kernel
theorem d_M_arc_41 : decode prog_7_method_39_code 41 = .ok (.aload_n 0, 1) := by decide +kernel
theorem d_M_arc_42 : decode prog_7_method_39_code 42 = .ok (.dup, 1) := by decide +kernel
theorem d_M_arc_43 : decode prog_7_method_39_code 43 = .ok (.getfield 200, 3) := by decide +kernel
theorem d_M_arc_46 : decode prog_7_method_39_code 46 = .ok (.iconst 1, 1) := by decide +kernel
theorem d_M_arc_47 : decode prog_7_method_39_code 47 = .ok (.iadd, 1) := by decide +kernel
theorem d_M_arc_48 : decode prog_7_method_39_code 48 = .ok (.putfield 200, 3) := by decide +kernel
theorem d_M_arc_51 : decode prog_7_method_39_code 51 = .ok (.return_, 1) := by decide +kernel
theorem d_M_draw_0 : decode prog_7_method_40_code 0 = .ok (.aload_n 0, 1) := by decide +kernel
theorem d_M_draw_1 : decode prog_7_method_40_code 1 = .ok (.iconst 0, 1) := by decide +kernel
theorem d_M_draw_2 : decode prog_7_method_40_code 2 = .ok (.putfield 200, 3) := by decide +kernel
theorem d_M_draw_5 : decode prog_7_method_40_code 5 = .ok (.aload_n 0, 1) := by decide +kernel
theorem d_M_draw_6 : decode prog_7_method_40_code 6 = .ok (.bipush (40), 2) := by decide +kernel
theorem d_M_draw_8 : decode prog_7_method_40_code 8 = .ok (.putfield 203, 3) := by decide +kernel
theorem d_M_draw_11 : decode prog_7_method_40_code 11 = .ok (.iconst 0, 1) := by decide +kernel
theorem d_M_draw_12 : decode prog_7_method_40_code 12 = .ok (.istore_n 1, 1) := by decide +kernel
theorem d_M_draw_13 : decode prog_7_method_40_code 13 = .ok (.iload_n 1, 1) := by decide +kernel
theorem d_M_draw_14 : decode prog_7_method_40_code 14 = .ok (.aload_n 0, 1) := by decide +kernel
theorem d_M_draw_15 : decode prog_7_method_40_code 15 = .ok (.getfield 114, 3) := by decide +kernel
theorem d_M_draw_18 : decode prog_7_method_40_code 18 = .ok (.if_icmp .ge (37), 3) := by decide +kernel
theorem d_M_draw_21 : decode prog_7_method_40_code 21 = .ok (.aload_n 0, 1) := by decide +kernel
theorem d_M_draw_22 : decode prog_7_method_40_code 22 = .ok (.iconst 2, 1) := by decide +kernel
theorem d_M_draw_23 : decode prog_7_method_40_code 23 = .ok (.iload_n 1, 1) := by decide +kernel
theorem d_M_draw_24 : decode prog_7_method_40_code 24 = .ok (.imul, 1) := by decide +kernel
theorem d_M_draw_25 : decode prog_7_method_40_code 25 = .ok (.iconst 2, 1) := by decide +kernel
theorem d_M_draw_26 : decode prog_7_method_40_code 26 = .ok (.iload_n 1, 1) := by decide +kernel
theorem d_M_draw_27 : decode prog_7_method_40_code 27 = .ok (.imul, 1) := by decide +kernel
theorem d_M_draw_28 : decode prog_7_method_40_code 28 = .ok (.iconst 1, 1) := by decide +kernel
theorem d_M_draw_29 : decode prog_7_method_40_code 29 = .ok (.iadd, 1) := by decide +kernel
theorem d_M_draw_30 : decode prog_7_method_40_code 30 = .ok (.iconst 0, 1) := by decide +kernel
theorem d_M_draw_31 : decode prog_7_method_40_code 31 = .ok (.iconst 0, 1) := by decide +kernel
theorem d_M_draw_32 : decode prog_7_method_40_code 32 = .ok (.invokevirtual 206, 3) := by decide +kernel
theorem d_M_draw_35 : decode prog_7_method_40_code 35 = .ok (.aload_n 0, 1) := by decide +kernel
theorem d_M_draw_36 : decode prog_7_method_40_code 36 = .ok (.iconst 2, 1) := by decide +kernel
theorem d_M_draw_37 : decode prog_7_method_40_code 37 = .ok (.iload_n 1, 1) := by decide +kernel
theorem d_M_draw_38 : decode prog_7_method_40_code 38 = .ok (.imul, 1) := by decide +kernel
theorem d_M_draw_39 : decode prog_7_method_40_code 39 = .ok (.iconst 1, 1) := by decide +kernel
theorem d_M_draw_40 : decode prog_7_method_40_code 40 = .ok (.iadd, 1) := by decide +kernel
theorem d_M_draw_41 : decode prog_7_method_40_code 41 = .ok (.iconst 2, 1) := by decide +kernel
theorem d_M_draw_42 : decode prog_7_method_40_code 42 = .ok (.iload_n 1, 1) := by decide +kernel
theorem d_M_draw_43 : decode prog_7_method_40_code 43 = .ok (.imul, 1) := by decide +kernel
theorem d_M_draw_44 : decode prog_7_method_40_code 44 = .ok (.iconst 1, 1) := by decide +kernel
theorem d_M_draw_45 : decode prog_7_method_40_code 45 = .ok (.iconst 1, 1) := by decide +kernel
theorem d_M_draw_46 : decode prog_7_method_40_code 46 = .ok (.invokevirtual 206, 3) := by decide +kernel
theorem d_M_draw_49 : decode prog_7_method_40_code 49 = .ok (.iinc 1 (1), 3) := by decide +kernel
theorem d_M_draw_52 : decode prog_7_method_40_code 52 = .ok (.goto (-39), 3) := by decide +kernel
theorem d_M_draw_55 : decode prog_7_method_40_code 55 = .ok (.iconst 0, 1) := by decide +kernel
theorem d_M_draw_56 : decode prog_7_method_40_code 56 = .ok (.istore_n 1, 1) := by decide +kernel
theorem d_M_draw_57 : decode prog_7_method_40_code 57 = .ok (.iload_n 1, 1) := by decide +kernel
theorem d_M_draw_58 : decode prog_7_method_40_code 58 = .ok (.aload_n 0, 1) := by decide +kernel
theorem d_M_draw_59 : decode prog_7_method_40_code 59 = .ok (.getfield 125, 3) := by decide +kernel
theorem d_M_draw_62 : decode prog_7_method_40_code 62 = .ok (.if_icmp .ge (185), 3) := by decide +kernel
theorem d_M_draw_65 : decode prog_7_method_40_code 65 = .ok (.aload_n 0, 1) := by decide +kernel
theorem d_M_draw_66 : decode prog_7_method_40_code 66 = .ok (.iconst 2, 1) := by decide +kernel
theorem d_M_draw_67 : decode prog_7_method_40_code 67 = .ok (.aload_n 0, 1) := by decide +kernel
theorem d_M_draw_68 : decode prog_7_method_40_code 68 = .ok (.getfield 16, 3) := by decide +kernel
theorem d_M_draw_71 : decode prog_7_method_40_code 71 = .ok (.iload_n 1, 1) := by decide +kernel
theorem d_M_draw_72 : decode prog_7_method_40_code 72 = .ok (.iaload, 1) := by decide +kernel
theorem d_M_draw_73 : decode prog_7_method_40_code 73 = .ok (.imul, 1) := by decide +kernel
theorem d_M_draw_74 : decode prog_7_method_40_code 74 = .ok (.bipush (20), 2) := by decide +kernel
theorem d_M_draw_76 : decode prog_7_method_40_code 76 = .ok (.iload_n 1, 1) := by decide +kernel
theorem d_M_draw_77 : decode prog_7_method_40_code 77 = .ok (.iadd, 1) := by decide +kernel
theorem d_M_draw_78 : decode prog_7_method_40_code 78 = .ok (.iconst 0, 1) := by decide +kernel
theorem d_M_draw_79 : decode prog_7_method_40_code 79 = .ok (.iconst 0, 1) := by decide +kernel
theorem d_M_draw_80 : decode prog_7_method_40_code 80 = .ok (.invokevirtual 206, 3) := by decide +kernel
theorem d_M_draw_83 : decode prog_7_method_40_code 83 = .ok (.aload_n 0, 1) := by decide +kernel
theorem d_M_draw_84 : decode prog_7_method_40_code 84 = .ok (.bipush (20), 2) := by decide +kernel
theorem d_M_draw_86 : decode prog_7_method_40_code 86 = .ok (.iload_n 1, 1) := by decide +kernel
theorem d_M_draw_87 : decode prog_7_method_40_code 87 = .ok (.iadd, 1) := by decide +kernel
theorem d_M_draw_88 : decode prog_7_method_40_code 88 = .ok (.iconst 2, 1) := by decide +kernel
theorem d_M_draw_89 : decode prog_7_method_40_code 89 = .ok (.aload_n 0, 1) := by decide +kernel
theorem d_M_draw_90 : decode prog_7_method_40_code 90 = .ok (.getfield 16, 3) := by decide +kernel
theorem d_M_draw_93 : decode prog_7_method_40_code 93 = .ok (.iload_n 1, 1) := by decide +kernel
theorem d_M_draw_94 : decode prog_7_method_40_code 94 = .ok (.iaload, 1) := by decide +kernel
theorem d_M_draw_95 : decode prog_7_method_40_code 95 = .ok (.imul, 1) := by decide +kernel
theorem d_M_draw_96 : decode prog_7_method_40_code 96 = .ok (.iconst 1, 1) := by decide +kernel
theorem d_M_draw_97 : decode prog_7_method_40_code 97 = .ok (.iadd, 1) := by decide +kernel
theorem d_M_draw_98 : decode prog_7_method_40_code 98 = .ok (.iconst 0, 1) := by decide +kernel
theorem d_M_draw_99 : decode prog_7_method_40_code 99 = .ok (.iconst 0, 1) := by decide +kernel
theorem d_M_draw_100 : decode prog_7_method_40_code 100 = .ok (.invokevirtual 206, 3) := by decide +kernel
theorem d_M_draw_103 : decode prog_7_method_40_code 103 = .ok (.bipush (20), 2) := by decide +kernel
theorem d_M_draw_105 : decode prog_7_method_40_code 105 = .ok (.iload_n 1, 1) := by decide +kernel
theorem d_M_draw_106 : decode prog_7_method_40_code 106 = .ok (.iadd, 1) := by decide +kernel
theorem d_M_draw_107 : decode prog_7_method_40_code 107 = .ok (.istore_n 2, 1) := by decide +kernel
theorem d_M_draw_108 : decode prog_7_method_40_code 108 = .ok (.iconst 0, 1) := by decide +kernel
theorem d_M_draw_109 : decode prog_7_method_40_code 109 = .ok (.istore_n 3, 1) := by decide +kernel
theorem d_M_draw_110 : decode prog_7_method_40_code 110 = .ok (.iload_n 3, 1) := by decide +kernel
theorem d_M_draw_111 : decode prog_7_method_40_code 111 = .ok (.aload_n 0, 1) := by decide +kernel
theorem d_M_draw_112 : decode prog_7_method_40_code 112 = .ok (.getfield 25, 3) := by decide +kernel
theorem d_M_draw_115 : decode prog_7_method_40_code 115 = .ok (.iload_n 1, 1) := by decide +kernel
theorem d_M_draw_116 : decode prog_7_method_40_code 116 = .ok (.iaload, 1) := by decide +kernel
theorem d_M_draw_117 : decode prog_7_method_40_code 117 = .ok (.if_icmp .gt (124), 3) := by decide +kernel
theorem d_M_draw_120 : decode prog_7_method_40_code 120 = .ok (.iload_n 3, 1) := by decide +kernel
theorem d_M_draw_121 : decode prog_7_method_40_code 121 = .ok (.aload_n 0, 1) := by decide +kernel
theorem d_M_draw_122 : decode prog_7_method_40_code 122 = .ok (.getfield 25, 3) := by decide +kernel
theorem d_M_draw_125 : decode prog_7_method_40_code 125 = .ok (.iload_n 1, 1) := by decide +kernel
theorem d_M_draw_126 : decode prog_7_method_40_code 126 = .ok (.iaload, 1) := by decide +kernel
theorem d_M_draw_127 : decode prog_7_method_40_code 127 = .ok (.if_icmp .ne (7), 3) := by decide +kernel
theorem d_M_draw_130 : decode prog_7_method_40_code 130 = .ok (.iconst 1, 1) := by decide +kernel
theorem d_M_draw_131 : decode prog_7_method_40_code 131 = .ok (.goto (4), 3) := by decide +kernel
theorem d_M_draw_134 : decode prog_7_method_40_code 134 = .ok (.iconst 0, 1) := by decide +kernel
theorem d_M_draw_135 : decode prog_7_method_40_code 135 = .ok (.istore 4, 2) := by decide +kernel
theorem d_M_draw_137 : decode prog_7_method_40_code 137 = .ok (.iload_n 3, 1) := by decide +kernel
theorem d_M_draw_138 : decode prog_7_method_40_code 138 = .ok (.ifCond .ne (7), 3) := by decide +kernel
theorem d_M_draw_141 : decode prog_7_method_40_code 141 = .ok (.iconst 1, 1) := by decide +kernel
theorem d_M_draw_142 : decode prog_7_method_40_code 142 = .ok (.goto (4), 3) := by decide +kernel
theorem d_M_draw_145 : decode prog_7_method_40_code 145 = .ok (.iconst 0, 1) := by decide +kernel
theorem d_M_draw_146 : decode prog_7_method_40_code 146 = .ok (.istore 5, 2) := by decide +kernel
theorem d_M_draw_148 : decode prog_7_method_40_code 148 = .ok (.aload_n 0, 1) := by decide +kernel
theorem d_M_draw_149 : decode prog_7_method_40_code 149 = .ok (.iload_n 2, 1) := by decide +kernel
theorem d_M_draw_150 : decode prog_7_method_40_code 150 = .ok (.iload 4, 2) := by decide +kernel
theorem d_M_draw_152 : decode prog_7_method_40_code 152 = .ok (.ifCond .eq (14), 3) := by decide +kernel
theorem d_M_draw_155 : decode prog_7_method_40_code 155 = .ok (.iconst 2, 1) := by decide +kernel
theorem d_M_draw_156 : decode prog_7_method_40_code 156 = .ok (.aload_n 0, 1) := by decide +kernel
theorem d_M_draw_157 : decode prog_7_method_40_code 157 = .ok (.getfield 19, 3) := by decide +kernel
theorem d_M_draw_160 : decode prog_7_method_40_code 160 = .ok (.iload_n 1, 1) := by decide +kernel
theorem d_M_draw_161 : decode prog_7_method_40_code 161 = .ok (.iaload, 1) := by decide +kernel
theorem d_M_draw_162 : decode prog_7_method_40_code 162 = .ok (.imul, 1) := by decide +kernel
theorem d_M_draw_163 : decode prog_7_method_40_code 163 = .ok (.goto (7), 3) := by decide +kernel
theorem d_M_draw_166 : decode prog_7_method_40_code 166 = .ok (.aload_n 0, 1) := by decide +kernel
theorem d_M_draw_167 : decode prog_7_method_40_code 167 = .ok (.getfield 203, 3) := by decide +kernel
theorem d_M_draw_170 : decode prog_7_method_40_code 170 = .ok (.iload 5, 2) := by decide +kernel
theorem d_M_draw_172 : decode prog_7_method_40_code 172 = .ok (.iconst 1, 1) := by decide +kernel
theorem d_M_draw_173 : decode prog_7_method_40_code 173 = .ok (.invokevirtual 206, 3) := by decide +kernel
theorem d_M_draw_176 : decode prog_7_method_40_code 176 = .ok (.aload_n 0, 1) := by decide +kernel
theorem d_M_draw_177 : decode prog_7_method_40_code 177 = .ok (.iload 4, 2) := by decide +kernel
theorem d_M_draw_179 : decode prog_7_method_40_code 179 = .ok (.ifCond .eq (16), 3) := by decide +kernel
theorem d_M_draw_182 : decode prog_7_method_40_code 182 = .ok (.iconst 2, 1) := by decide +kernel
theorem d_M_draw_183 : decode prog_7_method_40_code 183 = .ok (.aload_n 0, 1) := by decide +kernel
theorem d_M_draw_184 : decode prog_7_method_40_code 184 = .ok (.getfield 19, 3) := by decide +kernel
theorem d_M_draw_187 : decode prog_7_method_40_code 187 = .ok (.iload_n 1, 1) := by decide +kernel
theorem d_M_draw_188 : decode prog_7_method_40_code 188 = .ok (.iaload, 1) := by decide +kernel
theorem d_M_draw_189 : decode prog_7_method_40_code 189 = .ok (.imul, 1) := by decide +kernel
theorem d_M_draw_190 : decode prog_7_method_40_code 190 = .ok (.iconst 1, 1) := by decide +kernel
theorem d_M_draw_191 : decode prog_7_method_40_code 191 = .ok (.iadd, 1) := by decide +kernel
theorem d_M_draw_192 : decode prog_7_method_40_code 192 = .ok (.goto (7), 3) := by decide +kernel
theorem d_M_draw_195 : decode prog_7_method_40_code 195 = .ok (.aload_n 0, 1) := by decide +kernel
theorem d_M_draw_196 : decode prog_7_method_40_code 196 = .ok (.getfield 203, 3) := by decide +kernel
theorem d_M_draw_199 : decode prog_7_method_40_code 199 = .ok (.iload_n 2, 1) := by decide +kernel
theorem d_M_draw_200 : decode prog_7_method_40_code 200 = .ok (.iconst 2, 1) := by decide +kernel
theorem d_M_draw_201 : decode prog_7_method_40_code 201 = .ok (.iload 5, 2) := by decide +kernel
theorem d_M_draw_203 : decode prog_7_method_40_code 203 = .ok (.isub, 1) := by decide +kernel
theorem d_M_draw_204 : decode prog_7_method_40_code 204 = .ok (.iconst 1, 1) := by decide +kernel
theorem d_M_draw_205 : decode prog_7_method_40_code 205 = .ok (.invokevirtual 206, 3) := by decide +kernel
theorem d_M_draw_208 : decode prog_7_method_40_code 208 = .ok (.aload_n 0, 1) := by decide +kernel
theorem d_M_draw_209 : decode prog_7_method_40_code 209 = .ok (.getfield 203, 3) := by decide +kernel
theorem d_M_draw_212 : decode prog_7_method_40_code 212 = .ok (.istore_n 2, 1) := by decide +kernel
theorem d_M_draw_213 : decode prog_7_method_40_code 213 = .ok (.aload_n 0, 1) := by decide +kernel
theorem d_M_draw_214 : decode prog_7_method_40_code 214 = .ok (.iload 4, 2) := by decide +kernel
theorem d_M_draw_216 : decode prog_7_method_40_code 216 = .ok (.ifCond .eq (10), 3) := by decide +kernel
theorem d_M_draw_219 : decode prog_7_method_40_code 219 = .ok (.aload_n 0, 1) := by decide +kernel
theorem d_M_draw_220 : decode prog_7_method_40_code 220 = .ok (.getfield 203, 3) := by decide +kernel
theorem d_M_draw_223 : decode prog_7_method_40_code 223 = .ok (.goto (9), 3) := by decide +kernel
theorem d_M_draw_226 : decode prog_7_method_40_code 226 = .ok (.aload_n 0, 1) := by decide +kernel
theorem d_M_draw_227 : decode prog_7_method_40_code 227 = .ok (.getfield 203, 3) := by decide +kernel
theorem d_M_draw_230 : decode prog_7_method_40_code 230 = .ok (.iconst 1, 1) := by decide +kernel
theorem d_M_draw_231 : decode prog_7_method_40_code 231 = .ok (.iadd, 1) := by decide +kernel
theorem d_M_draw_232 : decode prog_7_method_40_code 232 = .ok (.putfield 203, 3) := by decide +kernel
theorem d_M_draw_235 : decode prog_7_method_40_code 235 = .ok (.iinc 3 (1), 3) := by decide +kernel
theorem d_M_draw_238 : decode prog_7_method_40_code 238 = .ok (.goto (-128), 3) := by decide +kernel
theorem d_M_draw_241 : decode prog_7_method_40_code 241 = .ok (.iinc 1 (1), 3) := by decide +kernel
theorem d_M_draw_244 : decode prog_7_method_40_code 244 = .ok (.goto (-187), 3) := by decide +kernel
theorem d_M_draw_247 : decode prog_7_method_40_code 247 = .ok (.return_, 1) := by decide +kernel
theorem d_M_goOn_0 : decode prog_7_method_41_code 0 = .ok (.iconst 0, 1) := by decide +kernel
theorem d_M_goOn_1 : decode prog_7_method_41_code 1 = .ok (.istore_n 1, 1) := by decide +kernel
theorem d_M_goOn_2 : decode prog_7_method_41_code 2 = .ok (.iload_n 1, 1) := by decide +kernel
theorem d_M_goOn_3 : decode prog_7_method_41_code 3 = .ok (.aload_n 0, 1) := by decide +kernel
theorem d_M_goOn_4 : decode prog_7_method_41_code 4 = .ok (.getfield 203, 3) := by decide +kernel
theorem d_M_goOn_7 : decode prog_7_method_41_code 7 = .ok (.if_icmp .ge (29), 3) := by decide +kernel
theorem d_M_goOn_10 : decode prog_7_method_41_code 10 = .ok (.aload_n 0, 1) := by decide +kernel
theorem d_M_goOn_11 : decode prog_7_method_41_code 11 = .ok (.getfield 107, 3) := by decide +kernel
theorem d_M_goOn_14 : decode prog_7_method_41_code 14 = .ok (.iload_n 1, 1) := by decide +kernel
theorem d_M_goOn_15 : decode prog_7_method_41_code 15 = .ok (.aload_n 0, 1) := by decide +kernel
theorem d_M_goOn_16 : decode prog_7_method_41_code 16 = .ok (.getfield 104, 3) := by decide +kernel
theorem d_M_goOn_19 : decode prog_7_method_41_code 19 = .ok (.iload_n 1, 1) := by decide +kernel
theorem d_M_goOn_20 : decode prog_7_method_41_code 20 = .ok (.iaload, 1) := by decide +kernel
theorem d_M_goOn_21 : decode prog_7_method_41_code 21 = .ok (.iastore, 1) := by decide +kernel
theorem d_M_goOn_22 : decode prog_7_method_41_code 22 = .ok (.aload_n 0, 1) := by decide +kernel
theorem d_M_goOn_23 : decode prog_7_method_41_code 23 = .ok (.getfield 104, 3) := by decide +kernel
theorem d_M_goOn_26 : decode prog_7_method_41_code 26 = .ok (.iload_n 1, 1) := by decide +kernel
theorem d_M_goOn_27 : decode prog_7_method_41_code 27 = .ok (.ldc 163, 2) := by decide +kernel
theorem d_M_goOn_29 : decode prog_7_method_41_code 29 = .ok (.iastore, 1) := by decide +kernel
theorem d_M_goOn_30 : decode prog_7_method_41_code 30 = .ok (.iinc 1 (1), 3) := by decide +kernel
theorem d_M_goOn_33 : decode prog_7_method_41_code 33 = .ok (.goto (-31), 3) := by decide +kernel
theorem d_M_goOn_36 : decode prog_7_method_41_code 36 = .ok (.iconst 0, 1) := by decide +kernel
theorem d_M_goOn_37 : decode prog_7_method_41_code 37 = .ok (.istore_n 1, 1) := by decide +kernel
theorem d_M_goOn_38 : decode prog_7_method_41_code 38 = .ok (.iload_n 1, 1) := by decide +kernel
theorem d_M_goOn_39 : decode prog_7_method_41_code 39 = .ok (.aload_n 0, 1) := by decide +kernel
theorem d_M_goOn_40 : decode prog_7_method_41_code 40 = .ok (.getfield 200, 3) := by decide +kernel
theorem d_M_goOn_43 : decode prog_7_method_41_code 43 = .ok (.if_icmp .ge (65), 3) := by decide +kernel
theorem d_M_goOn_46 : decode prog_7_method_41_code 46 = .ok (.aload_n 0, 1) := by decide +kernel
theorem d_M_goOn_47 : decode prog_7_method_41_code 47 = .ok (.getfield 107, 3) := by decide +kernel
theorem d_M_goOn_50 : decode prog_7_method_41_code 50 = .ok (.aload_n 0, 1) := by decide +kernel
theorem d_M_goOn_51 : decode prog_7_method_41_code 51 = .ok (.getfield 92, 3) := by decide +kernel
theorem d_M_goOn_54 : decode prog_7_method_41_code 54 = .ok (.iload_n 1, 1) := by decide +kernel
theorem d_M_goOn_55 : decode prog_7_method_41_code 55 = .ok (.iaload, 1) := by decide +kernel
theorem d_M_goOn_56 : decode prog_7_method_41_code 56 = .ok (.iaload, 1) := by decide +kernel
theorem d_M_goOn_57 : decode prog_7_method_41_code 57 = .ok (.aload_n 0, 1) := by decide +kernel
theorem d_M_goOn_58 : decode prog_7_method_41_code 58 = .ok (.getfield 98, 3) := by decide +kernel
theorem d_M_goOn_61 : decode prog_7_method_41_code 61 = .ok (.iload_n 1, 1) := by decide +kernel
theorem d_M_goOn_62 : decode prog_7_method_41_code 62 = .ok (.iaload, 1) := by decide +kernel
theorem d_M_goOn_63 : decode prog_7_method_41_code 63 = .ok (.iadd, 1) := by decide +kernel
theorem d_M_goOn_64 : decode prog_7_method_41_code 64 = .ok (.istore_n 2, 1) := by decide +kernel
theorem d_M_goOn_65 : decode prog_7_method_41_code 65 = .ok (.aload_n 0, 1) := by decide +kernel
theorem d_M_goOn_66 : decode prog_7_method_41_code 66 = .ok (.getfield 101, 3) := by decide +kernel
theorem d_M_goOn_69 : decode prog_7_method_41_code 69 = .ok (.iload_n 1, 1) := by decide +kernel
theorem d_M_goOn_70 : decode prog_7_method_41_code 70 = .ok (.iaload, 1) := by decide +kernel
theorem d_M_goOn_71 : decode prog_7_method_41_code 71 = .ok (.iconst 1, 1) := by decide +kernel
theorem d_M_goOn_72 : decode prog_7_method_41_code 72 = .ok (.if_icmp .ne (30), 3) := by decide +kernel
theorem d_M_goOn_75 : decode prog_7_method_41_code 75 = .ok (.iload_n 2, 1) := by decide +kernel
theorem d_M_goOn_76 : decode prog_7_method_41_code 76 = .ok (.aload_n 0, 1) := by decide +kernel
theorem d_M_goOn_77 : decode prog_7_method_41_code 77 = .ok (.getfield 104, 3) := by decide +kernel
theorem d_M_goOn_80 : decode prog_7_method_41_code 80 = .ok (.aload_n 0, 1) := by decide +kernel
theorem d_M_goOn_81 : decode prog_7_method_41_code 81 = .ok (.getfield 95, 3) := by decide +kernel
theorem d_M_goOn_84 : decode prog_7_method_41_code 84 = .ok (.iload_n 1, 1) := by decide +kernel
theorem d_M_goOn_85 : decode prog_7_method_41_code 85 = .ok (.iaload, 1) := by decide +kernel
theorem d_M_goOn_86 : decode prog_7_method_41_code 86 = .ok (.iaload, 1) := by decide +kernel
theorem d_M_goOn_87 : decode prog_7_method_41_code 87 = .ok (.if_icmp .ge (15), 3) := by decide +kernel
theorem d_M_goOn_90 : decode prog_7_method_41_code 90 = .ok (.aload_n 0, 1) := by decide +kernel
theorem d_M_goOn_91 : decode prog_7_method_41_code 91 = .ok (.getfield 104, 3) := by decide +kernel
theorem d_M_goOn_94 : decode prog_7_method_41_code 94 = .ok (.aload_n 0, 1) := by decide +kernel
theorem d_M_goOn_95 : decode prog_7_method_41_code 95 = .ok (.getfield 95, 3) := by decide +kernel
theorem d_M_goOn_98 : decode prog_7_method_41_code 98 = .ok (.iload_n 1, 1) := by decide +kernel
theorem d_M_goOn_99 : decode prog_7_method_41_code 99 = .ok (.iaload, 1) := by decide +kernel
theorem d_M_goOn_100 : decode prog_7_method_41_code 100 = .ok (.iload_n 2, 1) := by decide +kernel
theorem d_M_goOn_101 : decode prog_7_method_41_code 101 = .ok (.iastore, 1) := by decide +kernel
theorem d_M_goOn_102 : decode prog_7_method_41_code 102 = .ok (.iinc 1 (1), 3) := by decide +kernel
theorem d_M_goOn_105 : decode prog_7_method_41_code 105 = .ok (.goto (-67), 3) := by decide +kernel
theorem d_M_goOn_108 : decode prog_7_method_41_code 108 = .ok (.aload_n 0, 1) := by decide +kernel
theorem d_M_goOn_109 : decode prog_7_method_41_code 109 = .ok (.invokevirtual 210, 3) := by decide +kernel
theorem d_M_goOn_112 : decode prog_7_method_41_code 112 = .ok (.return_, 1) := by decide +kernel
theorem d_M_goFree_0 : decode prog_7_method_42_code 0 = .ok (.iconst 0, 1) := by decide +kernel
theorem d_M_goFree_1 : decode prog_7_method_42_code 1 = .ok (.istore_n 1, 1) := by decide +kernel
theorem d_M_goFree_2 : decode prog_7_method_42_code 2 = .ok (.iload_n 1, 1) := by decide +kernel
theorem d_M_goFree_3 : decode prog_7_method_42_code 3 = .ok (.iconst 2, 1) := by decide +kernel
theorem d_M_goFree_4 : decode prog_7_method_42_code 4 = .ok (.if_icmp .ge (80), 3) := by decide +kernel
theorem d_M_goFree_7 : decode prog_7_method_42_code 7 = .ok (.iconst 0, 1) := by decide +kernel
theorem d_M_goFree_8 : decode prog_7_method_42_code 8 = .ok (.istore_n 2, 1) := by decide +kernel
theorem d_M_goFree_9 : decode prog_7_method_42_code 9 = .ok (.iload_n 2, 1) := by decide +kernel
theorem d_M_goFree_10 : decode prog_7_method_42_code 10 = .ok (.aload_n 0, 1) := by decide +kernel
theorem d_M_goFree_11 : decode prog_7_method_42_code 11 = .ok (.getfield 200, 3) := by decide +kernel
theorem d_M_goFree_14 : decode prog_7_method_42_code 14 = .ok (.if_icmp .ge (64), 3) := by decide +kernel
theorem d_M_goFree_17 : decode prog_7_method_42_code 17 = .ok (.aload_n 0, 1) := by decide +kernel
theorem d_M_goFree_18 : decode prog_7_method_42_code 18 = .ok (.getfield 104, 3) := by decide +kernel
theorem d_M_goFree_21 : decode prog_7_method_42_code 21 = .ok (.aload_n 0, 1) := by decide +kernel
theorem d_M_goFree_22 : decode prog_7_method_42_code 22 = .ok (.getfield 92, 3) := by decide +kernel
theorem d_M_goFree_25 : decode prog_7_method_42_code 25 = .ok (.iload_n 2, 1) := by decide +kernel
theorem d_M_goFree_26 : decode prog_7_method_42_code 26 = .ok (.iaload, 1) := by decide +kernel
theorem d_M_goFree_27 : decode prog_7_method_42_code 27 = .ok (.iaload, 1) := by decide +kernel
theorem d_M_goFree_28 : decode prog_7_method_42_code 28 = .ok (.aload_n 0, 1) := by decide +kernel
theorem d_M_goFree_29 : decode prog_7_method_42_code 29 = .ok (.getfield 98, 3) := by decide +kernel
theorem d_M_goFree_32 : decode prog_7_method_42_code 32 = .ok (.iload_n 2, 1) := by decide +kernel
theorem d_M_goFree_33 : decode prog_7_method_42_code 33 = .ok (.iaload, 1) := by decide +kernel
theorem d_M_goFree_34 : decode prog_7_method_42_code 34 = .ok (.iadd, 1) := by decide +kernel
theorem d_M_goFree_35 : decode prog_7_method_42_code 35 = .ok (.istore_n 3, 1) := by decide +kernel
theorem d_M_goFree_36 : decode prog_7_method_42_code 36 = .ok (.aload_n 0, 1) := by decide +kernel
theorem d_M_goFree_37 : decode prog_7_method_42_code 37 = .ok (.getfield 101, 3) := by decide +kernel
theorem d_M_goFree_40 : decode prog_7_method_42_code 40 = .ok (.iload_n 2, 1) := by decide +kernel
theorem d_M_goFree_41 : decode prog_7_method_42_code 41 = .ok (.iaload, 1) := by decide +kernel
theorem d_M_goFree_42 : decode prog_7_method_42_code 42 = .ok (.ifCond .ne (30), 3) := by decide +kernel
theorem d_M_goFree_45 : decode prog_7_method_42_code 45 = .ok (.iload_n 3, 1) := by decide +kernel
theorem d_M_goFree_46 : decode prog_7_method_42_code 46 = .ok (.aload_n 0, 1) := by decide +kernel
theorem d_M_goFree_47 : decode prog_7_method_42_code 47 = .ok (.getfield 104, 3) := by decide +kernel
theorem d_M_goFree_50 : decode prog_7_method_42_code 50 = .ok (.aload_n 0, 1) := by decide +kernel
theorem d_M_goFree_51 : decode prog_7_method_42_code 51 = .ok (.getfield 95, 3) := by decide +kernel
theorem d_M_goFree_54 : decode prog_7_method_42_code 54 = .ok (.iload_n 2, 1) := by decide +kernel
theorem d_M_goFree_55 : decode prog_7_method_42_code 55 = .ok (.iaload, 1) := by decide +kernel
theorem d_M_goFree_56 : decode prog_7_method_42_code 56 = .ok (.iaload, 1) := by decide +kernel
theorem d_M_goFree_57 : decode prog_7_method_42_code 57 = .ok (.if_icmp .ge (15), 3) := by decide +kernel
theorem d_M_goFree_60 : decode prog_7_method_42_code 60 = .ok (.aload_n 0, 1) := by decide +kernel
theorem d_M_goFree_61 : decode prog_7_method_42_code 61 = .ok (.getfield 104, 3) := by decide +kernel
theorem d_M_goFree_64 : decode prog_7_method_42_code 64 = .ok (.aload_n 0, 1) := by decide +kernel
theorem d_M_goFree_65 : decode prog_7_method_42_code 65 = .ok (.getfield 95, 3) := by decide +kernel
theorem d_M_goFree_68 : decode prog_7_method_42_code 68 = .ok (.iload_n 2, 1) := by decide +kernel
theorem d_M_goFree_69 : decode prog_7_method_42_code 69 = .ok (.iaload, 1) := by decide +kernel
theorem d_M_goFree_70 : decode prog_7_method_42_code 70 = .ok (.iload_n 3, 1) := by decide +kernel
theorem d_M_goFree_71 : decode prog_7_method_42_code 71 = .ok (.iastore, 1) := by decide +kernel
theorem d_M_goFree_72 : decode prog_7_method_42_code 72 = .ok (.iinc 2 (1), 3) := by decide +kernel
theorem d_M_goFree_75 : decode prog_7_method_42_code 75 = .ok (.goto (-66), 3) := by decide +kernel
theorem d_M_goFree_78 : decode prog_7_method_42_code 78 = .ok (.iinc 1 (1), 3) := by decide +kernel
theorem d_M_goFree_81 : decode prog_7_method_42_code 81 = .ok (.goto (-79), 3) := by decide +kernel
theorem d_M_goFree_84 : decode prog_7_method_42_code 84 = .ok (.return_, 1) := by decide +kernel
theorem d_M_divisor_0 : decode prog_7_method_43_code 0 = .ok (.iload_n 0, 1) := by decide +kernel
theorem d_M_divisor_1 : decode prog_7_method_43_code 1 = .ok (.istore_n 2, 1) := by decide +kernel
theorem d_M_divisor_2 : decode prog_7_method_43_code 2 = .ok (.iload_n 1, 1) := by decide +kernel
theorem d_M_divisor_3 : decode prog_7_method_43_code 3 = .ok (.istore_n 3, 1) := by decide +kernel
theorem d_M_divisor_4 : decode prog_7_method_43_code 4 = .ok (.iload_n 3, 1) := by decide +kernel
theorem d_M_divisor_5 : decode prog_7_method_43_code 5 = .ok (.ifCond .le (16), 3) := by decide +kernel
theorem d_M_divisor_8 : decode prog_7_method_43_code 8 = .ok (.iload_n 2, 1) := by decide +kernel
theorem d_M_divisor_9 : decode prog_7_method_43_code 9 = .ok (.iload_n 3, 1) := by decide +kernel
theorem d_M_divisor_10 : decode prog_7_method_43_code 10 = .ok (.irem, 1) := by decide +kernel
theorem d_M_divisor_11 : decode prog_7_method_43_code 11 = .ok (.istore 4, 2) := by decide +kernel
theorem d_M_divisor_13 : decode prog_7_method_43_code 13 = .ok (.iload_n 3, 1) := by decide +kernel
theorem d_M_divisor_14 : decode prog_7_method_43_code 14 = .ok (.istore_n 2, 1) := by decide +kernel
theorem d_M_divisor_15 : decode prog_7_method_43_code 15 = .ok (.iload 4, 2) := by decide +kernel
theorem d_M_divisor_17 : decode prog_7_method_43_code 17 = .ok (.istore_n 3, 1) := by decide +kernel
theorem d_M_divisor_18 : decode prog_7_method_43_code 18 = .ok (.goto (-14), 3) := by decide +kernel
theorem d_M_divisor_21 : decode prog_7_method_43_code 21 = .ok (.iload_n 2, 1) := by decide +kernel
theorem d_M_divisor_22 : decode prog_7_method_43_code 22 = .ok (.ireturn, 1) := by decide +kernel
theorem d_M_reckon_0 : decode prog_7_method_44_code 0 = .ok (.aload_n 0, 1) := by decide +kernel
theorem d_M_reckon_1 : decode prog_7_method_44_code 1 = .ok (.iconst 1, 1) := by decide +kernel
theorem d_M_reckon_2 : decode prog_7_method_44_code 2 = .ok (.putfield 213, 3) := by decide +kernel
theorem d_M_reckon_5 : decode prog_7_method_44_code 5 = .ok (.aload_n 0, 1) := by decide +kernel
theorem d_M_reckon_6 : decode prog_7_method_44_code 6 = .ok (.aload_n 0, 1) := by decide +kernel
theorem d_M_reckon_7 : decode prog_7_method_44_code 7 = .ok (.getfield 114, 3) := by decide +kernel
theorem d_M_reckon_10 : decode prog_7_method_44_code 10 = .ok (.ifCond .ne (7), 3) := by decide +kernel
theorem d_M_reckon_13 : decode prog_7_method_44_code 13 = .ok (.iconst 1, 1) := by decide +kernel
theorem d_M_reckon_14 : decode prog_7_method_44_code 14 = .ok (.goto (4), 3) := by decide +kernel
theorem d_M_reckon_17 : decode prog_7_method_44_code 17 = .ok (.iconst 0, 1) := by decide +kernel
theorem d_M_reckon_18 : decode prog_7_method_44_code 18 = .ok (.putfield 216, 3) := by decide +kernel
theorem d_M_reckon_21 : decode prog_7_method_44_code 21 = .ok (.aload_n 0, 1) := by decide +kernel
theorem d_M_reckon_22 : decode prog_7_method_44_code 22 = .ok (.invokevirtual 219, 3) := by decide +kernel
theorem d_M_reckon_25 : decode prog_7_method_44_code 25 = .ok (.iconst 0, 1) := by decide +kernel
theorem d_M_reckon_26 : decode prog_7_method_44_code 26 = .ok (.istore_n 1, 1) := by decide +kernel
theorem d_M_reckon_27 : decode prog_7_method_44_code 27 = .ok (.iload_n 1, 1) := by decide +kernel
theorem d_M_reckon_28 : decode prog_7_method_44_code 28 = .ok (.aload_n 0, 1) := by decide +kernel
theorem d_M_reckon_29 : decode prog_7_method_44_code 29 = .ok (.getfield 203, 3) := by decide +kernel
theorem d_M_reckon_32 : decode prog_7_method_44_code 32 = .ok (.if_icmp .ge (112), 3) := by decide +kernel
theorem d_M_reckon_35 : decode prog_7_method_44_code 35 = .ok (.iconst 0, 1) := by decide +kernel
theorem d_M_reckon_36 : decode prog_7_method_44_code 36 = .ok (.istore_n 2, 1) := by decide +kernel
theorem d_M_reckon_37 : decode prog_7_method_44_code 37 = .ok (.iload_n 2, 1) := by decide +kernel
theorem d_M_reckon_38 : decode prog_7_method_44_code 38 = .ok (.aload_n 0, 1) := by decide +kernel
theorem d_M_reckon_39 : decode prog_7_method_44_code 39 = .ok (.getfield 203, 3) := by decide +kernel
theorem d_M_reckon_42 : decode prog_7_method_44_code 42 = .ok (.if_icmp .ge (26), 3) := by decide +kernel
theorem d_M_reckon_45 : decode prog_7_method_44_code 45 = .ok (.aload_n 0, 1) := by decide +kernel
theorem d_M_reckon_46 : decode prog_7_method_44_code 46 = .ok (.getfield 104, 3) := by decide +kernel
theorem d_M_reckon_49 : decode prog_7_method_44_code 49 = .ok (.iload_n 2, 1) := by decide +kernel
theorem d_M_reckon_50 : decode prog_7_method_44_code 50 = .ok (.iload_n 2, 1) := by decide +kernel
theorem d_M_reckon_51 : decode prog_7_method_44_code 51 = .ok (.iload_n 1, 1) := by decide +kernel
theorem d_M_reckon_52 : decode prog_7_method_44_code 52 = .ok (.if_icmp .ne (7), 3) := by decide +kernel
theorem d_M_reckon_55 : decode prog_7_method_44_code 55 = .ok (.iconst 0, 1) := by decide +kernel
theorem d_M_reckon_56 : decode prog_7_method_44_code 56 = .ok (.goto (5), 3) := by decide +kernel
theorem d_M_reckon_59 : decode prog_7_method_44_code 59 = .ok (.ldc 163, 2) := by decide +kernel
theorem d_M_reckon_61 : decode prog_7_method_44_code 61 = .ok (.iastore, 1) := by decide +kernel
theorem d_M_reckon_62 : decode prog_7_method_44_code 62 = .ok (.iinc 2 (1), 3) := by decide +kernel
theorem d_M_reckon_65 : decode prog_7_method_44_code 65 = .ok (.goto (-28), 3) := by decide +kernel
theorem d_M_reckon_68 : decode prog_7_method_44_code 68 = .ok (.aload_n 0, 1) := by decide +kernel
theorem d_M_reckon_69 : decode prog_7_method_44_code 69 = .ok (.invokevirtual 210, 3) := by decide +kernel
theorem d_M_reckon_72 : decode prog_7_method_44_code 72 = .ok (.iconst 1, 1) := by decide +kernel
theorem d_M_reckon_73 : decode prog_7_method_44_code 73 = .ok (.istore_n 2, 1) := by decide +kernel
theorem d_M_reckon_74 : decode prog_7_method_44_code 74 = .ok (.iload_n 2, 1) := by decide +kernel
theorem d_M_reckon_75 : decode prog_7_method_44_code 75 = .ok (.aload_n 0, 1) := by decide +kernel
theorem d_M_reckon_76 : decode prog_7_method_44_code 76 = .ok (.getfield 203, 3) := by decide +kernel
theorem d_M_reckon_79 : decode prog_7_method_44_code 79 = .ok (.if_icmp .gt (59), 3) := by decide +kernel
theorem d_M_reckon_82 : decode prog_7_method_44_code 82 = .ok (.aload_n 0, 1) := by decide +kernel
theorem d_M_reckon_83 : decode prog_7_method_44_code 83 = .ok (.invokevirtual 222, 3) := by decide +kernel
theorem d_M_reckon_86 : decode prog_7_method_44_code 86 = .ok (.aload_n 0, 1) := by decide +kernel
theorem d_M_reckon_87 : decode prog_7_method_44_code 87 = .ok (.getfield 104, 3) := by decide +kernel
theorem d_M_reckon_90 : decode prog_7_method_44_code 90 = .ok (.iload_n 1, 1) := by decide +kernel
theorem d_M_reckon_91 : decode prog_7_method_44_code 91 = .ok (.iaload, 1) := by decide +kernel
theorem d_M_reckon_92 : decode prog_7_method_44_code 92 = .ok (.ldc 163, 2) := by decide +kernel
theorem d_M_reckon_94 : decode prog_7_method_44_code 94 = .ok (.if_icmp .ge (38), 3) := by decide +kernel
theorem d_M_reckon_97 : decode prog_7_method_44_code 97 = .ok (.aload_n 0, 1) := by decide +kernel
theorem d_M_reckon_98 : decode prog_7_method_44_code 98 = .ok (.getfield 104, 3) := by decide +kernel
theorem d_M_reckon_101 : decode prog_7_method_44_code 101 = .ok (.iload_n 1, 1) := by decide +kernel
theorem d_M_reckon_102 : decode prog_7_method_44_code 102 = .ok (.iaload, 1) := by decide +kernel
theorem d_M_reckon_103 : decode prog_7_method_44_code 103 = .ok (.aload_n 0, 1) := by decide +kernel
theorem d_M_reckon_104 : decode prog_7_method_44_code 104 = .ok (.getfield 216, 3) := by decide +kernel
theorem d_M_reckon_107 : decode prog_7_method_44_code 107 = .ok (.imul, 1) := by decide +kernel
theorem d_M_reckon_108 : decode prog_7_method_44_code 108 = .ok (.aload_n 0, 1) := by decide +kernel
theorem d_M_reckon_109 : decode prog_7_method_44_code 109 = .ok (.getfield 213, 3) := by decide +kernel
theorem d_M_reckon_112 : decode prog_7_method_44_code 112 = .ok (.iload_n 2, 1) := by decide +kernel
theorem d_M_reckon_113 : decode prog_7_method_44_code 113 = .ok (.imul, 1) := by decide +kernel
theorem d_M_reckon_114 : decode prog_7_method_44_code 114 = .ok (.if_icmp .ge (18), 3) := by decide +kernel
theorem d_M_reckon_117 : decode prog_7_method_44_code 117 = .ok (.aload_n 0, 1) := by decide +kernel
theorem d_M_reckon_118 : decode prog_7_method_44_code 118 = .ok (.aload_n 0, 1) := by decide +kernel
theorem d_M_reckon_119 : decode prog_7_method_44_code 119 = .ok (.getfield 104, 3) := by decide +kernel
theorem d_M_reckon_122 : decode prog_7_method_44_code 122 = .ok (.iload_n 1, 1) := by decide +kernel
theorem d_M_reckon_123 : decode prog_7_method_44_code 123 = .ok (.iaload, 1) := by decide +kernel
theorem d_M_reckon_124 : decode prog_7_method_44_code 124 = .ok (.putfield 213, 3) := by decide +kernel
theorem d_M_reckon_127 : decode prog_7_method_44_code 127 = .ok (.aload_n 0, 1) := by decide +kernel
theorem d_M_reckon_128 : decode prog_7_method_44_code 128 = .ok (.iload_n 2, 1) := by decide +kernel
theorem d_M_reckon_129 : decode prog_7_method_44_code 129 = .ok (.putfield 216, 3) := by decide +kernel
theorem d_M_reckon_132 : decode prog_7_method_44_code 132 = .ok (.iinc 2 (1), 3) := by decide +kernel
theorem d_M_reckon_135 : decode prog_7_method_44_code 135 = .ok (.goto (-61), 3) := by decide +kernel
theorem d_M_reckon_138 : decode prog_7_method_44_code 138 = .ok (.iinc 1 (1), 3) := by decide +kernel
theorem d_M_reckon_141 : decode prog_7_method_44_code 141 = .ok (.goto (-114), 3) := by decide +kernel
theorem d_M_reckon_144 : decode prog_7_method_44_code 144 = .ok (.aload_n 0, 1) := by decide +kernel
theorem d_M_reckon_145 : decode prog_7_method_44_code 145 = .ok (.getfield 213, 3) := by decide +kernel
theorem d_M_reckon_148 : decode prog_7_method_44_code 148 = .ok (.aload_n 0, 1) := by decide +kernel
theorem d_M_reckon_149 : decode prog_7_method_44_code 149 = .ok (.getfield 216, 3) := by decide +kernel
theorem d_M_reckon_152 : decode prog_7_method_44_code 152 = .ok (.invokestatic 225, 3) := by decide +kernel
theorem d_M_reckon_155 : decode prog_7_method_44_code 155 = .ok (.istore_n 1, 1) := by decide +kernel
theorem d_M_reckon_156 : decode prog_7_method_44_code 156 = .ok (.aload_n 0, 1) := by decide +kernel
theorem d_M_reckon_157 : decode prog_7_method_44_code 157 = .ok (.aload_n 0, 1) := by decide +kernel
theorem d_M_reckon_158 : decode prog_7_method_44_code 158 = .ok (.getfield 213, 3) := by decide +kernel
theorem d_M_reckon_161 : decode prog_7_method_44_code 161 = .ok (.iload_n 1, 1) := by decide +kernel
theorem d_M_reckon_162 : decode prog_7_method_44_code 162 = .ok (.idiv, 1) := by decide +kernel
theorem d_M_reckon_163 : decode prog_7_method_44_code 163 = .ok (.putfield 213, 3) := by decide +kernel
theorem d_M_reckon_166 : decode prog_7_method_44_code 166 = .ok (.aload_n 0, 1) := by decide +kernel
theorem d_M_reckon_167 : decode prog_7_method_44_code 167 = .ok (.aload_n 0, 1) := by decide +kernel
theorem d_M_reckon_168 : decode prog_7_method_44_code 168 = .ok (.getfield 216, 3) := by decide +kernel
theorem d_M_reckon_171 : decode prog_7_method_44_code 171 = .ok (.iload_n 1, 1) := by decide +kernel
theorem d_M_reckon_172 : decode prog_7_method_44_code 172 = .ok (.idiv, 1) := by decide +kernel
theorem d_M_reckon_173 : decode prog_7_method_44_code 173 = .ok (.putfield 216, 3) := by decide +kernel
theorem d_M_reckon_176 : decode prog_7_method_44_code 176 = .ok (.return_, 1) := by decide +kernel
theorem d_M_rate_0 : decode prog_7_method_45_code 0 = .ok (.aload_n 0, 1) := by decide +kernel
theorem d_M_rate_1 : decode prog_7_method_45_code 1 = .ok (.aload_n 0, 1) := by decide +kernel
theorem d_M_rate_2 : decode prog_7_method_45_code 2 = .ok (.getfield 117, 3) := by decide +kernel
theorem d_M_rate_5 : decode prog_7_method_45_code 5 = .ok (.ifCond .ne (7), 3) := by decide +kernel
theorem d_M_rate_8 : decode prog_7_method_45_code 8 = .ok (.iconst 1, 1) := by decide +kernel
theorem d_M_rate_9 : decode prog_7_method_45_code 9 = .ok (.goto (17), 3) := by decide +kernel
theorem d_M_rate_12 : decode prog_7_method_45_code 12 = .ok (.iload_n 1, 1) := by decide +kernel
theorem d_M_rate_13 : decode prog_7_method_45_code 13 = .ok (.ifCond .lt (8), 3) := by decide +kernel
theorem d_M_rate_16 : decode prog_7_method_45_code 16 = .ok (.iload_n 1, 1) := by decide +kernel
theorem d_M_rate_17 : decode prog_7_method_45_code 17 = .ok (.iconst 1, 1) := by decide +kernel
theorem d_M_rate_18 : decode prog_7_method_45_code 18 = .ok (.if_icmp .le (7), 3) := by decide +kernel
theorem d_M_rate_21 : decode prog_7_method_45_code 21 = .ok (.iconst 2, 1) := by decide +kernel
theorem d_M_rate_22 : decode prog_7_method_45_code 22 = .ok (.goto (4), 3) := by decide +kernel
theorem d_M_rate_25 : decode prog_7_method_45_code 25 = .ok (.iconst 0, 1) := by decide +kernel
theorem d_M_rate_26 : decode prog_7_method_45_code 26 = .ok (.putfield 110, 3) := by decide +kernel
theorem d_M_rate_29 : decode prog_7_method_45_code 29 = .ok (.aload_n 0, 1) := by decide +kernel
theorem d_M_rate_30 : decode prog_7_method_45_code 30 = .ok (.getfield 110, 3) := by decide +kernel
theorem d_M_rate_33 : decode prog_7_method_45_code 33 = .ok (.ifCond .le (7), 3) := by decide +kernel
theorem d_M_rate_36 : decode prog_7_method_45_code 36 = .ok (.iconst 0, 1) := by decide +kernel
theorem d_M_rate_37 : decode prog_7_method_45_code 37 = .ok (.goto (18), 3) := by decide +kernel
theorem d_M_rate_40 : decode prog_7_method_45_code 40 = .ok (.iload_n 1, 1) := by decide +kernel
theorem d_M_rate_41 : decode prog_7_method_45_code 41 = .ok (.ifCond .ne (10), 3) := by decide +kernel
theorem d_M_rate_44 : decode prog_7_method_45_code 44 = .ok (.aload_n 0, 1) := by decide +kernel
theorem d_M_rate_45 : decode prog_7_method_45_code 45 = .ok (.getfield 213, 3) := by decide +kernel
theorem d_M_rate_48 : decode prog_7_method_45_code 48 = .ok (.goto (7), 3) := by decide +kernel
theorem d_M_rate_51 : decode prog_7_method_45_code 51 = .ok (.aload_n 0, 1) := by decide +kernel
theorem d_M_rate_52 : decode prog_7_method_45_code 52 = .ok (.getfield 216, 3) := by decide +kernel
theorem d_M_rate_55 : decode prog_7_method_45_code 55 = .ok (.ireturn, 1) := by decide +kernel
