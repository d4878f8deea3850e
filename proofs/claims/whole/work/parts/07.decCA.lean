theorem d_C_init_0 : decode prog_2_method_1_code 0 = .ok (.aload_n 0, 1) := by decide +kernel
theorem d_C_init_1 : decode prog_2_method_1_code 1 = .ok (.invokespecial 3, 3) := by decide +kernel
theorem d_C_init_4 : decode prog_2_method_1_code 4 = .ok (.aload_n 0, 1) := by decide +kernel
theorem d_C_init_5 : decode prog_2_method_1_code 5 = .ok (.iconst 0, 1) := by decide +kernel
theorem d_C_init_6 : decode prog_2_method_1_code 6 = .ok (.putfield 9, 3) := by decide +kernel
theorem d_C_init_9 : decode prog_2_method_1_code 9 = .ok (.aload_n 0, 1) := by decide +kernel
theorem d_C_init_10 : decode prog_2_method_1_code 10 = .ok (.bipush (24), 2) := by decide +kernel
theorem d_C_init_12 : decode prog_2_method_1_code 12 = .ok (.newarray .int, 2) := by decide +kernel
theorem d_C_init_14 : decode prog_2_method_1_code 14 = .ok (.putfield 15, 3) := by decide +kernel
theorem d_C_init_17 : decode prog_2_method_1_code 17 = .ok (.aload_n 0, 1) := by decide +kernel
theorem d_C_init_18 : decode prog_2_method_1_code 18 = .ok (.bipush (10), 2) := by decide +kernel
theorem d_C_init_20 : decode prog_2_method_1_code 20 = .ok (.newarray .int, 2) := by decide +kernel
theorem d_C_init_22 : decode prog_2_method_1_code 22 = .ok (.putfield 19, 3) := by decide +kernel
theorem d_C_init_25 : decode prog_2_method_1_code 25 = .ok (.aload_n 0, 1) := by decide +kernel
theorem d_C_init_26 : decode prog_2_method_1_code 26 = .ok (.iconst 4, 1) := by decide +kernel
theorem d_C_init_27 : decode prog_2_method_1_code 27 = .ok (.sipush (1000), 3) := by decide +kernel
theorem d_C_init_30 : decode prog_2_method_1_code 30 = .ok (.multianewarray 22 2, 4) := by decide +kernel
theorem d_C_init_34 : decode prog_2_method_1_code 34 = .ok (.putfield 24, 3) := by decide +kernel
theorem d_C_init_37 : decode prog_2_method_1_code 37 = .ok (.aload_n 0, 1) := by decide +kernel
theorem d_C_init_38 : decode prog_2_method_1_code 38 = .ok (.aload_n 1, 1) := by decide +kernel
theorem d_C_init_39 : decode prog_2_method_1_code 39 = .ok (.putfield 27, 3) := by decide +kernel
theorem d_C_init_42 : decode prog_2_method_1_code 42 = .ok (.aload_n 0, 1) := by decide +kernel
theorem d_C_init_43 : decode prog_2_method_1_code 43 = .ok (.aload_n 2, 1) := by decide +kernel
theorem d_C_init_44 : decode prog_2_method_1_code 44 = .ok (.putfield 31, 3) := by decide +kernel
theorem d_C_init_47 : decode prog_2_method_1_code 47 = .ok (.return_, 1) := by decide +kernel
theorem d_C_reset_0 : decode prog_2_method_2_code 0 = .ok (.aload_n 0, 1) := by decide +kernel
theorem d_C_reset_1 : decode prog_2_method_2_code 1 = .ok (.iconst 0, 1) := by decide +kernel
theorem d_C_reset_2 : decode prog_2_method_2_code 2 = .ok (.putfield 9, 3) := by decide +kernel
theorem d_C_reset_5 : decode prog_2_method_2_code 5 = .ok (.iconst 0, 1) := by decide +kernel
theorem d_C_reset_6 : decode prog_2_method_2_code 6 = .ok (.istore_n 1, 1) := by decide +kernel
theorem d_C_reset_7 : decode prog_2_method_2_code 7 = .ok (.iload_n 1, 1) := by decide +kernel
theorem d_C_reset_8 : decode prog_2_method_2_code 8 = .ok (.aload_n 0, 1) := by decide +kernel
theorem d_C_reset_9 : decode prog_2_method_2_code 9 = .ok (.getfield 27, 3) := by decide +kernel
theorem d_C_reset_12 : decode prog_2_method_2_code 12 = .ok (.getfield 34, 3) := by decide +kernel
theorem d_C_reset_15 : decode prog_2_method_2_code 15 = .ok (.if_icmp .ge (24), 3) := by decide +kernel
theorem d_C_reset_18 : decode prog_2_method_2_code 18 = .ok (.aload_n 0, 1) := by decide +kernel
theorem d_C_reset_19 : decode prog_2_method_2_code 19 = .ok (.getfield 15, 3) := by decide +kernel
theorem d_C_reset_22 : decode prog_2_method_2_code 22 = .ok (.iload_n 1, 1) := by decide +kernel
theorem d_C_reset_23 : decode prog_2_method_2_code 23 = .ok (.aload_n 0, 1) := by decide +kernel
theorem d_C_reset_24 : decode prog_2_method_2_code 24 = .ok (.getfield 27, 3) := by decide +kernel
theorem d_C_reset_27 : decode prog_2_method_2_code 27 = .ok (.getfield 39, 3) := by decide +kernel
theorem d_C_reset_30 : decode prog_2_method_2_code 30 = .ok (.iload_n 1, 1) := by decide +kernel
theorem d_C_reset_31 : decode prog_2_method_2_code 31 = .ok (.iaload, 1) := by decide +kernel
theorem d_C_reset_32 : decode prog_2_method_2_code 32 = .ok (.iastore, 1) := by decide +kernel
theorem d_C_reset_33 : decode prog_2_method_2_code 33 = .ok (.iinc 1 (1), 3) := by decide +kernel
theorem d_C_reset_36 : decode prog_2_method_2_code 36 = .ok (.goto (-29), 3) := by decide +kernel
theorem d_C_reset_39 : decode prog_2_method_2_code 39 = .ok (.return_, 1) := by decide +kernel
theorem d_C_givenIn_0 : decode prog_2_method_3_code 0 = .ok (.aload_n 0, 1) := by decide +kernel
theorem d_C_givenIn_1 : decode prog_2_method_3_code 1 = .ok (.getfield 9, 3) := by decide +kernel
theorem d_C_givenIn_4 : decode prog_2_method_3_code 4 = .ok (.istore_n 3, 1) := by decide +kernel
theorem d_C_givenIn_5 : decode prog_2_method_3_code 5 = .ok (.iload_n 3, 1) := by decide +kernel
theorem d_C_givenIn_6 : decode prog_2_method_3_code 6 = .ok (.iload_n 2, 1) := by decide +kernel
theorem d_C_givenIn_7 : decode prog_2_method_3_code 7 = .ok (.if_icmp .gt (14), 3) := by decide +kernel
theorem d_C_givenIn_10 : decode prog_2_method_3_code 10 = .ok (.aload_n 0, 1) := by decide +kernel
theorem d_C_givenIn_11 : decode prog_2_method_3_code 11 = .ok (.iload_n 3, 1) := by decide +kernel
theorem d_C_givenIn_12 : decode prog_2_method_3_code 12 = .ok (.invokevirtual 42, 3) := by decide +kernel
theorem d_C_givenIn_15 : decode prog_2_method_3_code 15 = .ok (.iinc 3 (1), 3) := by decide +kernel
theorem d_C_givenIn_18 : decode prog_2_method_3_code 18 = .ok (.goto (-13), 3) := by decide +kernel
theorem d_C_givenIn_21 : decode prog_2_method_3_code 21 = .ok (.aload_n 0, 1) := by decide +kernel
theorem d_C_givenIn_22 : decode prog_2_method_3_code 22 = .ok (.aload_n 0, 1) := by decide +kernel
theorem d_C_givenIn_23 : decode prog_2_method_3_code 23 = .ok (.getfield 9, 3) := by decide +kernel
theorem d_C_givenIn_26 : decode prog_2_method_3_code 26 = .ok (.iload_n 2, 1) := by decide +kernel
theorem d_C_givenIn_27 : decode prog_2_method_3_code 27 = .ok (.iconst 1, 1) := by decide +kernel
theorem d_C_givenIn_28 : decode prog_2_method_3_code 28 = .ok (.iadd, 1) := by decide +kernel
theorem d_C_givenIn_29 : decode prog_2_method_3_code 29 = .ok (.invokestatic 46, 3) := by decide +kernel
theorem d_C_givenIn_32 : decode prog_2_method_3_code 32 = .ok (.putfield 9, 3) := by decide +kernel
theorem d_C_givenIn_35 : decode prog_2_method_3_code 35 = .ok (.aload_n 0, 1) := by decide +kernel
theorem d_C_givenIn_36 : decode prog_2_method_3_code 36 = .ok (.getfield 24, 3) := by decide +kernel
theorem d_C_givenIn_39 : decode prog_2_method_3_code 39 = .ok (.iload_n 1, 1) := by decide +kernel
theorem d_C_givenIn_40 : decode prog_2_method_3_code 40 = .ok (.aaload, 1) := by decide +kernel
theorem d_C_givenIn_41 : decode prog_2_method_3_code 41 = .ok (.iload_n 2, 1) := by decide +kernel
theorem d_C_givenIn_42 : decode prog_2_method_3_code 42 = .ok (.iaload, 1) := by decide +kernel
theorem d_C_givenIn_43 : decode prog_2_method_3_code 43 = .ok (.ireturn, 1) := by decide +kernel
theorem d_C_goThrough_0 : decode prog_2_method_4_code 0 = .ok (.iconst 0, 1) := by decide +kernel
theorem d_C_goThrough_1 : decode prog_2_method_4_code 1 = .ok (.istore_n 2, 1) := by decide +kernel
theorem d_C_goThrough_2 : decode prog_2_method_4_code 2 = .ok (.iload_n 2, 1) := by decide +kernel
theorem d_C_goThrough_3 : decode prog_2_method_4_code 3 = .ok (.aload_n 0, 1) := by decide +kernel
theorem d_C_goThrough_4 : decode prog_2_method_4_code 4 = .ok (.getfield 27, 3) := by decide +kernel
theorem d_C_goThrough_7 : decode prog_2_method_4_code 7 = .ok (.getfield 52, 3) := by decide +kernel
theorem d_C_goThrough_10 : decode prog_2_method_4_code 10 = .ok (.if_icmp .ge (26), 3) := by decide +kernel
theorem d_C_goThrough_13 : decode prog_2_method_4_code 13 = .ok (.aload_n 0, 1) := by decide +kernel
theorem d_C_goThrough_14 : decode prog_2_method_4_code 14 = .ok (.getfield 15, 3) := by decide +kernel
theorem d_C_goThrough_17 : decode prog_2_method_4_code 17 = .ok (.bipush (20), 2) := by decide +kernel
theorem d_C_goThrough_19 : decode prog_2_method_4_code 19 = .ok (.iload_n 2, 1) := by decide +kernel
theorem d_C_goThrough_20 : decode prog_2_method_4_code 20 = .ok (.iadd, 1) := by decide +kernel
theorem d_C_goThrough_21 : decode prog_2_method_4_code 21 = .ok (.aload_n 0, 1) := by decide +kernel
theorem d_C_goThrough_22 : decode prog_2_method_4_code 22 = .ok (.getfield 31, 3) := by decide +kernel
theorem d_C_goThrough_25 : decode prog_2_method_4_code 25 = .ok (.iload_n 2, 1) := by decide +kernel
theorem d_C_goThrough_26 : decode prog_2_method_4_code 26 = .ok (.aaload, 1) := by decide +kernel
theorem d_C_goThrough_27 : decode prog_2_method_4_code 27 = .ok (.iload_n 1, 1) := by decide +kernel
theorem d_C_goThrough_28 : decode prog_2_method_4_code 28 = .ok (.iaload, 1) := by decide +kernel
theorem d_C_goThrough_29 : decode prog_2_method_4_code 29 = .ok (.iastore, 1) := by decide +kernel
theorem d_C_goThrough_30 : decode prog_2_method_4_code 30 = .ok (.iinc 2 (1), 3) := by decide +kernel
theorem d_C_goThrough_33 : decode prog_2_method_4_code 33 = .ok (.goto (-31), 3) := by decide +kernel
theorem d_C_goThrough_36 : decode prog_2_method_4_code 36 = .ok (.iconst 0, 1) := by decide +kernel
theorem d_C_goThrough_37 : decode prog_2_method_4_code 37 = .ok (.istore_n 2, 1) := by decide +kernel
theorem d_C_goThrough_38 : decode prog_2_method_4_code 38 = .ok (.iload_n 2, 1) := by decide +kernel
theorem d_C_goThrough_39 : decode prog_2_method_4_code 39 = .ok (.aload_n 0, 1) := by decide +kernel
theorem d_C_goThrough_40 : decode prog_2_method_4_code 40 = .ok (.getfield 27, 3) := by decide +kernel
theorem d_C_goThrough_43 : decode prog_2_method_4_code 43 = .ok (.getfield 55, 3) := by decide +kernel
theorem d_C_goThrough_46 : decode prog_2_method_4_code 46 = .ok (.if_icmp .ge (27), 3) := by decide +kernel
theorem d_C_goThrough_49 : decode prog_2_method_4_code 49 = .ok (.aload_n 0, 1) := by decide +kernel
theorem d_C_goThrough_50 : decode prog_2_method_4_code 50 = .ok (.getfield 19, 3) := by decide +kernel
theorem d_C_goThrough_53 : decode prog_2_method_4_code 53 = .ok (.iload_n 2, 1) := by decide +kernel
theorem d_C_goThrough_54 : decode prog_2_method_4_code 54 = .ok (.aload_n 0, 1) := by decide +kernel
theorem d_C_goThrough_55 : decode prog_2_method_4_code 55 = .ok (.getfield 27, 3) := by decide +kernel
theorem d_C_goThrough_58 : decode prog_2_method_4_code 58 = .ok (.iload_n 2, 1) := by decide +kernel
theorem d_C_goThrough_59 : decode prog_2_method_4_code 59 = .ok (.aload_n 0, 1) := by decide +kernel
theorem d_C_goThrough_60 : decode prog_2_method_4_code 60 = .ok (.getfield 15, 3) := by decide +kernel
theorem d_C_goThrough_63 : decode prog_2_method_4_code 63 = .ok (.invokevirtual 58, 3) := by decide +kernel
theorem d_C_goThrough_66 : decode prog_2_method_4_code 66 = .ok (.iastore, 1) := by decide +kernel
theorem d_C_goThrough_67 : decode prog_2_method_4_code 67 = .ok (.iinc 2 (1), 3) := by decide +kernel
theorem d_C_goThrough_70 : decode prog_2_method_4_code 70 = .ok (.goto (-32), 3) := by decide +kernel
theorem d_C_goThrough_73 : decode prog_2_method_4_code 73 = .ok (.iconst 0, 1) := by decide +kernel
theorem d_C_goThrough_74 : decode prog_2_method_4_code 74 = .ok (.istore_n 2, 1) := by decide +kernel
theorem d_C_goThrough_75 : decode prog_2_method_4_code 75 = .ok (.iload_n 2, 1) := by decide +kernel
theorem d_C_goThrough_76 : decode prog_2_method_4_code 76 = .ok (.aload_n 0, 1) := by decide +kernel
theorem d_C_goThrough_77 : decode prog_2_method_4_code 77 = .ok (.getfield 27, 3) := by decide +kernel
theorem d_C_goThrough_80 : decode prog_2_method_4_code 80 = .ok (.getfield 34, 3) := by decide +kernel
theorem d_C_goThrough_83 : decode prog_2_method_4_code 83 = .ok (.if_icmp .ge (29), 3) := by decide +kernel
theorem d_C_goThrough_86 : decode prog_2_method_4_code 86 = .ok (.aload_n 0, 1) := by decide +kernel
theorem d_C_goThrough_87 : decode prog_2_method_4_code 87 = .ok (.getfield 15, 3) := by decide +kernel
theorem d_C_goThrough_90 : decode prog_2_method_4_code 90 = .ok (.iload_n 2, 1) := by decide +kernel
theorem d_C_goThrough_91 : decode prog_2_method_4_code 91 = .ok (.aload_n 0, 1) := by decide +kernel
theorem d_C_goThrough_92 : decode prog_2_method_4_code 92 = .ok (.getfield 19, 3) := by decide +kernel
theorem d_C_goThrough_95 : decode prog_2_method_4_code 95 = .ok (.aload_n 0, 1) := by decide +kernel
theorem d_C_goThrough_96 : decode prog_2_method_4_code 96 = .ok (.getfield 27, 3) := by decide +kernel
theorem d_C_goThrough_99 : decode prog_2_method_4_code 99 = .ok (.getfield 62, 3) := by decide +kernel
theorem d_C_goThrough_102 : decode prog_2_method_4_code 102 = .ok (.iload_n 2, 1) := by decide +kernel
theorem d_C_goThrough_103 : decode prog_2_method_4_code 103 = .ok (.iaload, 1) := by decide +kernel
theorem d_C_goThrough_104 : decode prog_2_method_4_code 104 = .ok (.iaload, 1) := by decide +kernel
theorem d_C_goThrough_105 : decode prog_2_method_4_code 105 = .ok (.iastore, 1) := by decide +kernel
theorem d_C_goThrough_106 : decode prog_2_method_4_code 106 = .ok (.iinc 2 (1), 3) := by decide +kernel
theorem d_C_goThrough_109 : decode prog_2_method_4_code 109 = .ok (.goto (-34), 3) := by decide +kernel
theorem d_C_goThrough_112 : decode prog_2_method_4_code 112 = .ok (.iconst 0, 1) := by decide +kernel
theorem d_C_goThrough_113 : decode prog_2_method_4_code 113 = .ok (.istore_n 2, 1) := by decide +kernel
theorem d_C_goThrough_114 : decode prog_2_method_4_code 114 = .ok (.iload_n 2, 1) := by decide +kernel
theorem d_C_goThrough_115 : decode prog_2_method_4_code 115 = .ok (.aload_n 0, 1) := by decide +kernel
theorem d_C_goThrough_116 : decode prog_2_method_4_code 116 = .ok (.getfield 27, 3) := by decide +kernel
theorem d_C_goThrough_119 : decode prog_2_method_4_code 119 = .ok (.getfield 65, 3) := by decide +kernel
theorem d_C_goThrough_122 : decode prog_2_method_4_code 122 = .ok (.if_icmp .ge (31), 3) := by decide +kernel
theorem d_C_goThrough_125 : decode prog_2_method_4_code 125 = .ok (.aload_n 0, 1) := by decide +kernel
theorem d_C_goThrough_126 : decode prog_2_method_4_code 126 = .ok (.getfield 24, 3) := by decide +kernel
theorem d_C_goThrough_129 : decode prog_2_method_4_code 129 = .ok (.iload_n 2, 1) := by decide +kernel
theorem d_C_goThrough_130 : decode prog_2_method_4_code 130 = .ok (.aaload, 1) := by decide +kernel
theorem d_C_goThrough_131 : decode prog_2_method_4_code 131 = .ok (.iload_n 1, 1) := by decide +kernel
theorem d_C_goThrough_132 : decode prog_2_method_4_code 132 = .ok (.aload_n 0, 1) := by decide +kernel
theorem d_C_goThrough_133 : decode prog_2_method_4_code 133 = .ok (.getfield 19, 3) := by decide +kernel
theorem d_C_goThrough_136 : decode prog_2_method_4_code 136 = .ok (.aload_n 0, 1) := by decide +kernel
theorem d_C_goThrough_137 : decode prog_2_method_4_code 137 = .ok (.getfield 27, 3) := by decide +kernel
theorem d_C_goThrough_140 : decode prog_2_method_4_code 140 = .ok (.getfield 68, 3) := by decide +kernel
theorem d_C_goThrough_143 : decode prog_2_method_4_code 143 = .ok (.iload_n 2, 1) := by decide +kernel
theorem d_C_goThrough_144 : decode prog_2_method_4_code 144 = .ok (.iaload, 1) := by decide +kernel
theorem d_C_goThrough_145 : decode prog_2_method_4_code 145 = .ok (.iaload, 1) := by decide +kernel
theorem d_C_goThrough_146 : decode prog_2_method_4_code 146 = .ok (.iastore, 1) := by decide +kernel
theorem d_C_goThrough_147 : decode prog_2_method_4_code 147 = .ok (.iinc 2 (1), 3) := by decide +kernel
theorem d_C_goThrough_150 : decode prog_2_method_4_code 150 = .ok (.goto (-36), 3) := by decide +kernel
theorem d_C_goThrough_153 : decode prog_2_method_4_code 153 = .ok (.return_, 1) := by decide +kernel
theorem d_A_init_0 : decode prog_4_method_1_code 0 = .ok (.aload_n 0, 1) := by decide +kernel
theorem d_A_init_1 : decode prog_4_method_1_code 1 = .ok (.invokespecial 5, 3) := by decide +kernel
theorem d_A_init_4 : decode prog_4_method_1_code 4 = .ok (.aload_n 0, 1) := by decide +kernel
theorem d_A_init_5 : decode prog_4_method_1_code 5 = .ok (.iconst 0, 1) := by decide +kernel
theorem d_A_init_6 : decode prog_4_method_1_code 6 = .ok (.putfield 11, 3) := by decide +kernel
theorem d_A_init_9 : decode prog_4_method_1_code 9 = .ok (.aload_n 0, 1) := by decide +kernel
theorem d_A_init_10 : decode prog_4_method_1_code 10 = .ok (.iconst 1, 1) := by decide +kernel
theorem d_A_init_11 : decode prog_4_method_1_code 11 = .ok (.putfield 15, 3) := by decide +kernel
theorem d_A_init_14 : decode prog_4_method_1_code 14 = .ok (.aload_n 0, 1) := by decide +kernel
theorem d_A_init_15 : decode prog_4_method_1_code 15 = .ok (.iconst 1, 1) := by decide +kernel
theorem d_A_init_16 : decode prog_4_method_1_code 16 = .ok (.putfield 19, 3) := by decide +kernel
theorem d_A_init_19 : decode prog_4_method_1_code 19 = .ok (.aload_n 0, 1) := by decide +kernel
theorem d_A_init_20 : decode prog_4_method_1_code 20 = .ok (.iconst 0, 1) := by decide +kernel
theorem d_A_init_21 : decode prog_4_method_1_code 21 = .ok (.putfield 22, 3) := by decide +kernel
theorem d_A_init_24 : decode prog_4_method_1_code 24 = .ok (.aload_n 0, 1) := by decide +kernel
theorem d_A_init_25 : decode prog_4_method_1_code 25 = .ok (.iconst 0, 1) := by decide +kernel
theorem d_A_init_26 : decode prog_4_method_1_code 26 = .ok (.putfield 25, 3) := by decide +kernel
theorem d_A_init_29 : decode prog_4_method_1_code 29 = .ok (.aload_n 0, 1) := by decide +kernel
theorem d_A_init_30 : decode prog_4_method_1_code 30 = .ok (.sipush (220), 3) := by decide +kernel
theorem d_A_init_33 : decode prog_4_method_1_code 33 = .ok (.newarray .int, 2) := by decide +kernel
theorem d_A_init_35 : decode prog_4_method_1_code 35 = .ok (.putfield 28, 3) := by decide +kernel
theorem d_A_init_38 : decode prog_4_method_1_code 38 = .ok (.aload_n 0, 1) := by decide +kernel
theorem d_A_init_39 : decode prog_4_method_1_code 39 = .ok (.sipush (220), 3) := by decide +kernel
theorem d_A_init_42 : decode prog_4_method_1_code 42 = .ok (.newarray .int, 2) := by decide +kernel
theorem d_A_init_44 : decode prog_4_method_1_code 44 = .ok (.putfield 32, 3) := by decide +kernel
theorem d_A_init_47 : decode prog_4_method_1_code 47 = .ok (.aload_n 0, 1) := by decide +kernel
theorem d_A_init_48 : decode prog_4_method_1_code 48 = .ok (.sipush (220), 3) := by decide +kernel
theorem d_A_init_51 : decode prog_4_method_1_code 51 = .ok (.newarray .int, 2) := by decide +kernel
theorem d_A_init_53 : decode prog_4_method_1_code 53 = .ok (.putfield 35, 3) := by decide +kernel
theorem d_A_init_56 : decode prog_4_method_1_code 56 = .ok (.aload_n 0, 1) := by decide +kernel
theorem d_A_init_57 : decode prog_4_method_1_code 57 = .ok (.sipush (220), 3) := by decide +kernel
theorem d_A_init_60 : decode prog_4_method_1_code 60 = .ok (.newarray .int, 2) := by decide +kernel
theorem d_A_init_62 : decode prog_4_method_1_code 62 = .ok (.putfield 38, 3) := by decide +kernel
theorem d_A_init_65 : decode prog_4_method_1_code 65 = .ok (.aload_n 0, 1) := by decide +kernel
theorem d_A_init_66 : decode prog_4_method_1_code 66 = .ok (.bipush (100), 2) := by decide +kernel
theorem d_A_init_68 : decode prog_4_method_1_code 68 = .ok (.newarray .int, 2) := by decide +kernel
theorem d_A_init_70 : decode prog_4_method_1_code 70 = .ok (.putfield 41, 3) := by decide +kernel
theorem d_A_init_73 : decode prog_4_method_1_code 73 = .ok (.aload_n 0, 1) := by decide +kernel
theorem d_A_init_74 : decode prog_4_method_1_code 74 = .ok (.bipush (100), 2) := by decide +kernel
theorem d_A_init_76 : decode prog_4_method_1_code 76 = .ok (.newarray .int, 2) := by decide +kernel
theorem d_A_init_78 : decode prog_4_method_1_code 78 = .ok (.putfield 44, 3) := by decide +kernel
theorem d_A_init_81 : decode prog_4_method_1_code 81 = .ok (.aload_n 0, 1) := by decide +kernel
theorem d_A_init_82 : decode prog_4_method_1_code 82 = .ok (.aload_n 1, 1) := by decide +kernel
theorem d_A_init_83 : decode prog_4_method_1_code 83 = .ok (.putfield 47, 3) := by decide +kernel
theorem d_A_init_86 : decode prog_4_method_1_code 86 = .ok (.return_, 1) := by decide +kernel
theorem d_A_forget_0 : decode prog_4_method_2_code 0 = .ok (.aload_n 0, 1) := by decide +kernel
theorem d_A_forget_1 : decode prog_4_method_2_code 1 = .ok (.iconst 0, 1) := by decide +kernel
theorem d_A_forget_2 : decode prog_4_method_2_code 2 = .ok (.putfield 11, 3) := by decide +kernel
theorem d_A_forget_5 : decode prog_4_method_2_code 5 = .ok (.return_, 1) := by decide +kernel
theorem d_A_find_0 : decode prog_4_method_3_code 0 = .ok (.aload_n 0, 1) := by decide +kernel
theorem d_A_find_1 : decode prog_4_method_3_code 1 = .ok (.getfield 11, 3) := by decide +kernel
theorem d_A_find_4 : decode prog_4_method_3_code 4 = .ok (.ifCond .eq (4), 3) := by decide +kernel
theorem d_A_find_7 : decode prog_4_method_3_code 7 = .ok (.return_, 1) := by decide +kernel
theorem d_A_find_8 : decode prog_4_method_3_code 8 = .ok (.aload_n 0, 1) := by decide +kernel
theorem d_A_find_9 : decode prog_4_method_3_code 9 = .ok (.invokevirtual 51, 3) := by decide +kernel
theorem d_A_find_12 : decode prog_4_method_3_code 12 = .ok (.aload_n 0, 1) := by decide +kernel
theorem d_A_find_13 : decode prog_4_method_3_code 13 = .ok (.iconst 1, 1) := by decide +kernel
theorem d_A_find_14 : decode prog_4_method_3_code 14 = .ok (.putfield 15, 3) := by decide +kernel
theorem d_A_find_17 : decode prog_4_method_3_code 17 = .ok (.aload_n 0, 1) := by decide +kernel
theorem d_A_find_18 : decode prog_4_method_3_code 18 = .ok (.iconst 1, 1) := by decide +kernel
theorem d_A_find_19 : decode prog_4_method_3_code 19 = .ok (.putfield 19, 3) := by decide +kernel
theorem d_A_find_22 : decode prog_4_method_3_code 22 = .ok (.iconst 0, 1) := by decide +kernel
theorem d_A_find_23 : decode prog_4_method_3_code 23 = .ok (.istore_n 1, 1) := by decide +kernel
theorem d_A_find_24 : decode prog_4_method_3_code 24 = .ok (.iload_n 1, 1) := by decide +kernel
theorem d_A_find_25 : decode prog_4_method_3_code 25 = .ok (.ldc 54, 2) := by decide +kernel
theorem d_A_find_27 : decode prog_4_method_3_code 27 = .ok (.if_icmp .ge (27), 3) := by decide +kernel
theorem d_A_find_30 : decode prog_4_method_3_code 30 = .ok (.aload_n 0, 1) := by decide +kernel
theorem d_A_find_31 : decode prog_4_method_3_code 31 = .ok (.invokevirtual 55, 3) := by decide +kernel
theorem d_A_find_34 : decode prog_4_method_3_code 34 = .ok (.istore_n 2, 1) := by decide +kernel
theorem d_A_find_35 : decode prog_4_method_3_code 35 = .ok (.iload_n 2, 1) := by decide +kernel
theorem d_A_find_36 : decode prog_4_method_3_code 36 = .ok (.iconst (-1), 1) := by decide +kernel
theorem d_A_find_37 : decode prog_4_method_3_code 37 = .ok (.if_icmp .ne (6), 3) := by decide +kernel
theorem d_A_find_40 : decode prog_4_method_3_code 40 = .ok (.goto (14), 3) := by decide +kernel
theorem d_A_find_43 : decode prog_4_method_3_code 43 = .ok (.aload_n 0, 1) := by decide +kernel
theorem d_A_find_44 : decode prog_4_method_3_code 44 = .ok (.iload_n 2, 1) := by decide +kernel
theorem d_A_find_45 : decode prog_4_method_3_code 45 = .ok (.invokevirtual 59, 3) := by decide +kernel
theorem d_A_find_48 : decode prog_4_method_3_code 48 = .ok (.iinc 1 (1), 3) := by decide +kernel
theorem d_A_find_51 : decode prog_4_method_3_code 51 = .ok (.goto (-27), 3) := by decide +kernel
theorem d_A_find_54 : decode prog_4_method_3_code 54 = .ok (.aload_n 0, 1) := by decide +kernel
theorem d_A_find_55 : decode prog_4_method_3_code 55 = .ok (.iconst 1, 1) := by decide +kernel
theorem d_A_find_56 : decode prog_4_method_3_code 56 = .ok (.putfield 11, 3) := by decide +kernel
theorem d_A_find_59 : decode prog_4_method_3_code 59 = .ok (.return_, 1) := by decide +kernel
theorem d_A_drawGraph_0 : decode prog_4_method_4_code 0 = .ok (.aload_n 0, 1) := by decide +kernel
theorem d_A_drawGraph_1 : decode prog_4_method_4_code 1 = .ok (.iconst 0, 1) := by decide +kernel
theorem d_A_drawGraph_2 : decode prog_4_method_4_code 2 = .ok (.putfield 25, 3) := by decide +kernel
theorem d_A_drawGraph_5 : decode prog_4_method_4_code 5 = .ok (.aload_n 0, 1) := by decide +kernel
theorem d_A_drawGraph_6 : decode prog_4_method_4_code 6 = .ok (.iconst 2, 1) := by decide +kernel
theorem d_A_drawGraph_7 : decode prog_4_method_4_code 7 = .ok (.aload_n 0, 1) := by decide +kernel
theorem d_A_drawGraph_8 : decode prog_4_method_4_code 8 = .ok (.getfield 47, 3) := by decide +kernel
theorem d_A_drawGraph_11 : decode prog_4_method_4_code 11 = .ok (.getfield 63, 3) := by decide +kernel
theorem d_A_drawGraph_14 : decode prog_4_method_4_code 14 = .ok (.imul, 1) := by decide +kernel
theorem d_A_drawGraph_15 : decode prog_4_method_4_code 15 = .ok (.aload_n 0, 1) := by decide +kernel
theorem d_A_drawGraph_16 : decode prog_4_method_4_code 16 = .ok (.getfield 47, 3) := by decide +kernel
theorem d_A_drawGraph_19 : decode prog_4_method_4_code 19 = .ok (.invokevirtual 68, 3) := by decide +kernel
theorem d_A_drawGraph_22 : decode prog_4_method_4_code 22 = .ok (.iadd, 1) := by decide +kernel
theorem d_A_drawGraph_23 : decode prog_4_method_4_code 23 = .ok (.putfield 22, 3) := by decide +kernel
theorem d_A_drawGraph_26 : decode prog_4_method_4_code 26 = .ok (.iconst 0, 1) := by decide +kernel
theorem d_A_drawGraph_27 : decode prog_4_method_4_code 27 = .ok (.istore_n 1, 1) := by decide +kernel
theorem d_A_drawGraph_28 : decode prog_4_method_4_code 28 = .ok (.iload_n 1, 1) := by decide +kernel
theorem d_A_drawGraph_29 : decode prog_4_method_4_code 29 = .ok (.aload_n 0, 1) := by decide +kernel
theorem d_A_drawGraph_30 : decode prog_4_method_4_code 30 = .ok (.getfield 47, 3) := by decide +kernel
theorem d_A_drawGraph_33 : decode prog_4_method_4_code 33 = .ok (.getfield 63, 3) := by decide +kernel
theorem d_A_drawGraph_36 : decode prog_4_method_4_code 36 = .ok (.if_icmp .ge (31), 3) := by decide +kernel
theorem d_A_drawGraph_39 : decode prog_4_method_4_code 39 = .ok (.aload_n 0, 1) := by decide +kernel
theorem d_A_drawGraph_40 : decode prog_4_method_4_code 40 = .ok (.iload_n 1, 1) := by decide +kernel
theorem d_A_drawGraph_41 : decode prog_4_method_4_code 41 = .ok (.bipush (10), 2) := by decide +kernel
theorem d_A_drawGraph_43 : decode prog_4_method_4_code 43 = .ok (.iload_n 1, 1) := by decide +kernel
theorem d_A_drawGraph_44 : decode prog_4_method_4_code 44 = .ok (.iadd, 1) := by decide +kernel
theorem d_A_drawGraph_45 : decode prog_4_method_4_code 45 = .ok (.iconst 0, 1) := by decide +kernel
theorem d_A_drawGraph_46 : decode prog_4_method_4_code 46 = .ok (.iconst 0, 1) := by decide +kernel
theorem d_A_drawGraph_47 : decode prog_4_method_4_code 47 = .ok (.invokevirtual 71, 3) := by decide +kernel
theorem d_A_drawGraph_50 : decode prog_4_method_4_code 50 = .ok (.aload_n 0, 1) := by decide +kernel
theorem d_A_drawGraph_51 : decode prog_4_method_4_code 51 = .ok (.bipush (10), 2) := by decide +kernel
theorem d_A_drawGraph_53 : decode prog_4_method_4_code 53 = .ok (.iload_n 1, 1) := by decide +kernel
theorem d_A_drawGraph_54 : decode prog_4_method_4_code 54 = .ok (.iadd, 1) := by decide +kernel
theorem d_A_drawGraph_55 : decode prog_4_method_4_code 55 = .ok (.iload_n 1, 1) := by decide +kernel
theorem d_A_drawGraph_56 : decode prog_4_method_4_code 56 = .ok (.iconst 1, 1) := by decide +kernel
theorem d_A_drawGraph_57 : decode prog_4_method_4_code 57 = .ok (.iconst 1, 1) := by decide +kernel
theorem d_A_drawGraph_58 : decode prog_4_method_4_code 58 = .ok (.invokevirtual 71, 3) := by decide +kernel
theorem d_A_drawGraph_61 : decode prog_4_method_4_code 61 = .ok (.iinc 1 (1), 3) := by decide +kernel
theorem d_A_drawGraph_64 : decode prog_4_method_4_code 64 = .ok (.goto (-36), 3) := by decide +kernel
theorem d_A_drawGraph_67 : decode prog_4_method_4_code 67 = .ok (.iconst 0, 1) := by decide +kernel
theorem d_A_drawGraph_68 : decode prog_4_method_4_code 68 = .ok (.istore_n 1, 1) := by decide +kernel
theorem d_A_drawGraph_69 : decode prog_4_method_4_code 69 = .ok (.iload_n 1, 1) := by decide +kernel
theorem d_A_drawGraph_70 : decode prog_4_method_4_code 70 = .ok (.aload_n 0, 1) := by decide +kernel
theorem d_A_drawGraph_71 : decode prog_4_method_4_code 71 = .ok (.getfield 47, 3) := by decide +kernel
theorem d_A_drawGraph_74 : decode prog_4_method_4_code 74 = .ok (.getfield 75, 3) := by decide +kernel
theorem d_A_drawGraph_77 : decode prog_4_method_4_code 77 = .ok (.if_icmp .ge (14), 3) := by decide +kernel
theorem d_A_drawGraph_80 : decode prog_4_method_4_code 80 = .ok (.aload_n 0, 1) := by decide +kernel
theorem d_A_drawGraph_81 : decode prog_4_method_4_code 81 = .ok (.iload_n 1, 1) := by decide +kernel
theorem d_A_drawGraph_82 : decode prog_4_method_4_code 82 = .ok (.invokevirtual 78, 3) := by decide +kernel
theorem d_A_drawGraph_85 : decode prog_4_method_4_code 85 = .ok (.iinc 1 (1), 3) := by decide +kernel
theorem d_A_drawGraph_88 : decode prog_4_method_4_code 88 = .ok (.goto (-19), 3) := by decide +kernel
theorem d_A_drawGraph_91 : decode prog_4_method_4_code 91 = .ok (.return_, 1) := by decide +kernel
theorem d_A_drawChannel_0 : decode prog_4_method_5_code 0 = .ok (.bipush (20), 2) := by decide +kernel
theorem d_A_drawChannel_2 : decode prog_4_method_5_code 2 = .ok (.iload_n 1, 1) := by decide +kernel
theorem d_A_drawChannel_3 : decode prog_4_method_5_code 3 = .ok (.iconst 4, 1) := by decide +kernel
theorem d_A_drawChannel_4 : decode prog_4_method_5_code 4 = .ok (.imul, 1) := by decide +kernel
theorem d_A_drawChannel_5 : decode prog_4_method_5_code 5 = .ok (.iadd, 1) := by decide +kernel
theorem d_A_drawChannel_6 : decode prog_4_method_5_code 6 = .ok (.istore_n 2, 1) := by decide +kernel
theorem d_A_drawChannel_7 : decode prog_4_method_5_code 7 = .ok (.aload_n 0, 1) := by decide +kernel
theorem d_A_drawChannel_8 : decode prog_4_method_5_code 8 = .ok (.aload_n 0, 1) := by decide +kernel
theorem d_A_drawChannel_9 : decode prog_4_method_5_code 9 = .ok (.getfield 47, 3) := by decide +kernel
theorem d_A_drawChannel_12 : decode prog_4_method_5_code 12 = .ok (.getfield 81, 3) := by decide +kernel
theorem d_A_drawChannel_15 : decode prog_4_method_5_code 15 = .ok (.iload_n 1, 1) := by decide +kernel
theorem d_A_drawChannel_16 : decode prog_4_method_5_code 16 = .ok (.iaload, 1) := by decide +kernel
theorem d_A_drawChannel_17 : decode prog_4_method_5_code 17 = .ok (.iload_n 2, 1) := by decide +kernel
theorem d_A_drawChannel_18 : decode prog_4_method_5_code 18 = .ok (.iconst 0, 1) := by decide +kernel
theorem d_A_drawChannel_19 : decode prog_4_method_5_code 19 = .ok (.iconst 0, 1) := by decide +kernel
theorem d_A_drawChannel_20 : decode prog_4_method_5_code 20 = .ok (.invokevirtual 71, 3) := by decide +kernel
theorem d_A_drawChannel_23 : decode prog_4_method_5_code 23 = .ok (.aload_n 0, 1) := by decide +kernel
theorem d_A_drawChannel_24 : decode prog_4_method_5_code 24 = .ok (.iload_n 2, 1) := by decide +kernel
theorem d_A_drawChannel_25 : decode prog_4_method_5_code 25 = .ok (.bipush (10), 2) := by decide +kernel
theorem d_A_drawChannel_27 : decode prog_4_method_5_code 27 = .ok (.aload_n 0, 1) := by decide +kernel
theorem d_A_drawChannel_28 : decode prog_4_method_5_code 28 = .ok (.getfield 47, 3) := by decide +kernel
theorem d_A_drawChannel_31 : decode prog_4_method_5_code 31 = .ok (.getfield 81, 3) := by decide +kernel
theorem d_A_drawChannel_34 : decode prog_4_method_5_code 34 = .ok (.iload_n 1, 1) := by decide +kernel
theorem d_A_drawChannel_35 : decode prog_4_method_5_code 35 = .ok (.iaload, 1) := by decide +kernel
theorem d_A_drawChannel_36 : decode prog_4_method_5_code 36 = .ok (.iadd, 1) := by decide +kernel
theorem d_A_drawChannel_37 : decode prog_4_method_5_code 37 = .ok (.iconst 0, 1) := by decide +kernel
theorem d_A_drawChannel_38 : decode prog_4_method_5_code 38 = .ok (.iconst 0, 1) := by decide +kernel
theorem d_A_drawChannel_39 : decode prog_4_method_5_code 39 = .ok (.invokevirtual 71, 3) := by decide +kernel
theorem d_A_drawChannel_42 : decode prog_4_method_5_code 42 = .ok (.aload_n 0, 1) := by decide +kernel
theorem d_A_drawChannel_43 : decode prog_4_method_5_code 43 = .ok (.getfield 47, 3) := by decide +kernel
theorem d_A_drawChannel_46 : decode prog_4_method_5_code 46 = .ok (.getfield 84, 3) := by decide +kernel
theorem d_A_drawChannel_49 : decode prog_4_method_5_code 49 = .ok (.iload_n 1, 1) := by decide +kernel
theorem d_A_drawChannel_50 : decode prog_4_method_5_code 50 = .ok (.iaload, 1) := by decide +kernel
theorem d_A_drawChannel_51 : decode prog_4_method_5_code 51 = .ok (.istore_n 3, 1) := by decide +kernel
theorem d_A_drawChannel_52 : decode prog_4_method_5_code 52 = .ok (.iconst 0, 1) := by decide +kernel
theorem d_A_drawChannel_53 : decode prog_4_method_5_code 53 = .ok (.istore 4, 2) := by decide +kernel
theorem d_A_drawChannel_55 : decode prog_4_method_5_code 55 = .ok (.iload 4, 2) := by decide +kernel
theorem d_A_drawChannel_57 : decode prog_4_method_5_code 57 = .ok (.iload_n 3, 1) := by decide +kernel
theorem d_A_drawChannel_58 : decode prog_4_method_5_code 58 = .ok (.if_icmp .gt (104), 3) := by decide +kernel
theorem d_A_drawChannel_61 : decode prog_4_method_5_code 61 = .ok (.iload 4, 2) := by decide +kernel
theorem d_A_drawChannel_63 : decode prog_4_method_5_code 63 = .ok (.ifCond .ne (7), 3) := by decide +kernel
theorem d_A_drawChannel_66 : decode prog_4_method_5_code 66 = .ok (.iconst 1, 1) := by decide +kernel
theorem d_A_drawChannel_67 : decode prog_4_method_5_code 67 = .ok (.goto (4), 3) := by decide +kernel
theorem d_A_drawChannel_70 : decode prog_4_method_5_code 70 = .ok (.iconst 0, 1) := by decide +kernel
theorem d_A_drawChannel_71 : decode prog_4_method_5_code 71 = .ok (.istore 5, 2) := by decide +kernel
theorem d_A_drawChannel_73 : decode prog_4_method_5_code 73 = .ok (.iload 4, 2) := by decide +kernel
theorem d_A_drawChannel_75 : decode prog_4_method_5_code 75 = .ok (.iload_n 3, 1) := by decide +kernel
theorem d_A_drawChannel_76 : decode prog_4_method_5_code 76 = .ok (.if_icmp .ge (12), 3) := by decide +kernel
theorem d_A_drawChannel_79 : decode prog_4_method_5_code 79 = .ok (.iload_n 2, 1) := by decide +kernel
theorem d_A_drawChannel_80 : decode prog_4_method_5_code 80 = .ok (.iload 4, 2) := by decide +kernel
theorem d_A_drawChannel_82 : decode prog_4_method_5_code 82 = .ok (.iadd, 1) := by decide +kernel
theorem d_A_drawChannel_83 : decode prog_4_method_5_code 83 = .ok (.iconst 1, 1) := by decide +kernel
theorem d_A_drawChannel_84 : decode prog_4_method_5_code 84 = .ok (.iadd, 1) := by decide +kernel
theorem d_A_drawChannel_85 : decode prog_4_method_5_code 85 = .ok (.goto (12), 3) := by decide +kernel
theorem d_A_drawChannel_88 : decode prog_4_method_5_code 88 = .ok (.aload_n 0, 1) := by decide +kernel
theorem d_A_drawChannel_89 : decode prog_4_method_5_code 89 = .ok (.getfield 47, 3) := by decide +kernel
theorem d_A_drawChannel_92 : decode prog_4_method_5_code 92 = .ok (.getfield 87, 3) := by decide +kernel
theorem d_A_drawChannel_95 : decode prog_4_method_5_code 95 = .ok (.iload_n 1, 1) := by decide +kernel
theorem d_A_drawChannel_96 : decode prog_4_method_5_code 96 = .ok (.iaload, 1) := by decide +kernel
theorem d_A_drawChannel_97 : decode prog_4_method_5_code 97 = .ok (.istore 6, 2) := by decide +kernel
theorem d_A_drawChannel_99 : decode prog_4_method_5_code 99 = .ok (.iload 4, 2) := by decide +kernel
theorem d_A_drawChannel_101 : decode prog_4_method_5_code 101 = .ok (.iload_n 3, 1) := by decide +kernel
theorem d_A_drawChannel_102 : decode prog_4_method_5_code 102 = .ok (.if_icmp .ge (12), 3) := by decide +kernel
theorem d_A_drawChannel_105 : decode prog_4_method_5_code 105 = .ok (.iload_n 2, 1) := by decide +kernel
theorem d_A_drawChannel_106 : decode prog_4_method_5_code 106 = .ok (.iload 4, 2) := by decide +kernel
theorem d_A_drawChannel_108 : decode prog_4_method_5_code 108 = .ok (.iadd, 1) := by decide +kernel
theorem d_A_drawChannel_109 : decode prog_4_method_5_code 109 = .ok (.iconst 1, 1) := by decide +kernel
theorem d_A_drawChannel_110 : decode prog_4_method_5_code 110 = .ok (.iadd, 1) := by decide +kernel
theorem d_A_drawChannel_111 : decode prog_4_method_5_code 111 = .ok (.goto (15), 3) := by decide +kernel
theorem d_A_drawChannel_114 : decode prog_4_method_5_code 114 = .ok (.bipush (10), 2) := by decide +kernel
theorem d_A_drawChannel_116 : decode prog_4_method_5_code 116 = .ok (.aload_n 0, 1) := by decide +kernel
theorem d_A_drawChannel_117 : decode prog_4_method_5_code 117 = .ok (.getfield 47, 3) := by decide +kernel
theorem d_A_drawChannel_120 : decode prog_4_method_5_code 120 = .ok (.getfield 87, 3) := by decide +kernel
theorem d_A_drawChannel_123 : decode prog_4_method_5_code 123 = .ok (.iload_n 1, 1) := by decide +kernel
theorem d_A_drawChannel_124 : decode prog_4_method_5_code 124 = .ok (.iaload, 1) := by decide +kernel
theorem d_A_drawChannel_125 : decode prog_4_method_5_code 125 = .ok (.iadd, 1) := by decide +kernel
theorem d_A_drawChannel_126 : decode prog_4_method_5_code 126 = .ok (.istore 7, 2) := by decide +kernel
theorem d_A_drawChannel_128 : decode prog_4_method_5_code 128 = .ok (.aload_n 0, 1) := by decide +kernel
theorem d_A_drawChannel_129 : decode prog_4_method_5_code 129 = .ok (.iload_n 2, 1) := by decide +kernel
theorem d_A_drawChannel_130 : decode prog_4_method_5_code 130 = .ok (.iload 4, 2) := by decide +kernel
theorem d_A_drawChannel_132 : decode prog_4_method_5_code 132 = .ok (.iadd, 1) := by decide +kernel
theorem d_A_drawChannel_133 : decode prog_4_method_5_code 133 = .ok (.iload 6, 2) := by decide +kernel
theorem d_A_drawChannel_135 : decode prog_4_method_5_code 135 = .ok (.iload 5, 2) := by decide +kernel
theorem d_A_drawChannel_137 : decode prog_4_method_5_code 137 = .ok (.iconst 1, 1) := by decide +kernel
theorem d_A_drawChannel_138 : decode prog_4_method_5_code 138 = .ok (.invokevirtual 71, 3) := by decide +kernel
theorem d_A_drawChannel_141 : decode prog_4_method_5_code 141 = .ok (.aload_n 0, 1) := by decide +kernel
theorem d_A_drawChannel_142 : decode prog_4_method_5_code 142 = .ok (.iload 7, 2) := by decide +kernel
theorem d_A_drawChannel_144 : decode prog_4_method_5_code 144 = .ok (.iload_n 2, 1) := by decide +kernel
theorem d_A_drawChannel_145 : decode prog_4_method_5_code 145 = .ok (.iload 4, 2) := by decide +kernel
theorem d_A_drawChannel_147 : decode prog_4_method_5_code 147 = .ok (.iadd, 1) := by decide +kernel
theorem d_A_drawChannel_148 : decode prog_4_method_5_code 148 = .ok (.iconst 2, 1) := by decide +kernel
theorem d_A_drawChannel_149 : decode prog_4_method_5_code 149 = .ok (.iload 5, 2) := by decide +kernel
theorem d_A_drawChannel_151 : decode prog_4_method_5_code 151 = .ok (.isub, 1) := by decide +kernel
theorem d_A_drawChannel_152 : decode prog_4_method_5_code 152 = .ok (.iconst 1, 1) := by decide +kernel
theorem d_A_drawChannel_153 : decode prog_4_method_5_code 153 = .ok (.invokevirtual 71, 3) := by decide +kernel
theorem d_A_drawChannel_156 : decode prog_4_method_5_code 156 = .ok (.iinc 4 (1), 3) := by decide +kernel
theorem d_A_drawChannel_159 : decode prog_4_method_5_code 159 = .ok (.goto (-104), 3) := by decide +kernel
theorem d_A_drawChannel_162 : decode prog_4_method_5_code 162 = .ok (.return_, 1) := by decide +kernel
theorem d_A_addArc_0 : decode prog_4_method_6_code 0 = .ok (.aload_n 0, 1) := by decide +kernel
theorem d_A_addArc_1 : decode prog_4_method_6_code 1 = .ok (.getfield 28, 3) := by decide +kernel
theorem d_A_addArc_4 : decode prog_4_method_6_code 4 = .ok (.aload_n 0, 1) := by decide +kernel
theorem d_A_addArc_5 : decode prog_4_method_6_code 5 = .ok (.getfield 25, 3) := by decide +kernel
theorem d_A_addArc_8 : decode prog_4_method_6_code 8 = .ok (.iload_n 1, 1) := by decide +kernel
theorem d_A_addArc_9 : decode prog_4_method_6_code 9 = .ok (.iastore, 1) := by decide +kernel
theorem d_A_addArc_10 : decode prog_4_method_6_code 10 = .ok (.aload_n 0, 1) := by decide +kernel
theorem d_A_addArc_11 : decode prog_4_method_6_code 11 = .ok (.getfield 32, 3) := by decide +kernel
theorem d_A_addArc_14 : decode prog_4_method_6_code 14 = .ok (.aload_n 0, 1) := by decide +kernel
theorem d_A_addArc_15 : decode prog_4_method_6_code 15 = .ok (.getfield 25, 3) := by decide +kernel
theorem d_A_addArc_18 : decode prog_4_method_6_code 18 = .ok (.iload_n 2, 1) := by decide +kernel
theorem d_A_addArc_19 : decode prog_4_method_6_code 19 = .ok (.iastore, 1) := by decide +kernel
theorem d_A_addArc_20 : decode prog_4_method_6_code 20 = .ok (.aload_n 0, 1) := by decide +kernel
theorem d_A_addArc_21 : decode prog_4_method_6_code 21 = .ok (.getfield 35, 3) := by decide +kernel
theorem d_A_addArc_24 : decode prog_4_method_6_code 24 = .ok (.aload_n 0, 1) := by decide +kernel
theorem d_A_addArc_25 : decode prog_4_method_6_code 25 = .ok (.getfield 25, 3) := by decide +kernel
theorem d_A_addArc_28 : decode prog_4_method_6_code 28 = .ok (.iload_n 3, 1) := by decide +kernel
theorem d_A_addArc_29 : decode prog_4_method_6_code 29 = .ok (.iastore, 1) := by decide +kernel
theorem d_A_addArc_30 : decode prog_4_method_6_code 30 = .ok (.aload_n 0, 1) := by decide +kernel
theorem d_A_addArc_31 : decode prog_4_method_6_code 31 = .ok (.getfield 38, 3) := by decide +kernel
theorem d_A_addArc_34 : decode prog_4_method_6_code 34 = .ok (.aload_n 0, 1) := by decide +kernel
theorem d_A_addArc_35 : decode prog_4_method_6_code 35 = .ok (.getfield 25, 3) := by decide +kernel
theorem d_A_addArc_38 : decode prog_4_method_6_code 38 = .ok (.iload 4, 2) := by decide +kernel
theorem d_A_addArc_40 : decode prog_4_method_6_code 40 = .ok (.iastore, 1) := by decide +kernel
theorem d_A_addArc_41 : decode prog_4_method_6_code 41 = .ok (.aload_n 0, 1) := by decide +kernel
theorem d_A_addArc_42 : decode prog_4_method_6_code 42 = .ok (.dup, 1) := by decide +kernel
theorem d_A_addArc_43 : decode prog_4_method_6_code 43 = .ok (.getfield 25, 3) := by decide +kernel
theorem d_A_addArc_46 : decode prog_4_method_6_code 46 = .ok (.iconst 1, 1) := by decide +kernel
theorem d_A_addArc_47 : decode prog_4_method_6_code 47 = .ok (.iadd, 1) := by decide +kernel
theorem d_A_addArc_48 : decode prog_4_method_6_code 48 = .ok (.putfield 25, 3) := by decide +kernel
theorem d_A_addArc_51 : decode prog_4_method_6_code 51 = .ok (.return_, 1) := by decide +kernel
theorem d_A_onLowerCycle_0 : decode prog_4_method_7_code 0 = .ok (.aload_n 0, 1) := by decide +kernel
theorem d_A_onLowerCycle_1 : decode prog_4_method_7_code 1 = .ok (.getfield 41, 3) := by decide +kernel
theorem d_A_onLowerCycle_4 : decode prog_4_method_7_code 4 = .ok (.iconst 0, 1) := by decide +kernel
theorem d_A_onLowerCycle_5 : decode prog_4_method_7_code 5 = .ok (.invokestatic 90, 3) := by decide +kernel
theorem d_A_onLowerCycle_8 : decode prog_4_method_7_code 8 = .ok (.aload_n 0, 1) := by decide +kernel
theorem d_A_onLowerCycle_9 : decode prog_4_method_7_code 9 = .ok (.getfield 44, 3) := by decide +kernel
theorem d_A_onLowerCycle_12 : decode prog_4_method_7_code 12 = .ok (.iconst (-1), 1) := by decide +kernel
theorem d_A_onLowerCycle_13 : decode prog_4_method_7_code 13 = .ok (.invokestatic 90, 3) := by decide +kernel
theorem d_A_onLowerCycle_16 : decode prog_4_method_7_code 16 = .ok (.iconst (-1), 1) := by decide +kernel
theorem d_A_onLowerCycle_17 : decode prog_4_method_7_code 17 = .ok (.istore_n 1, 1) := by decide +kernel
theorem d_A_onLowerCycle_18 : decode prog_4_method_7_code 18 = .ok (.iconst 0, 1) := by decide +kernel
theorem d_A_onLowerCycle_19 : decode prog_4_method_7_code 19 = .ok (.istore_n 2, 1) := by decide +kernel
theorem d_A_onLowerCycle_20 : decode prog_4_method_7_code 20 = .ok (.iload_n 2, 1) := by decide +kernel
theorem d_A_onLowerCycle_21 : decode prog_4_method_7_code 21 = .ok (.aload_n 0, 1) := by decide +kernel
theorem d_A_onLowerCycle_22 : decode prog_4_method_7_code 22 = .ok (.getfield 22, 3) := by decide +kernel
theorem d_A_onLowerCycle_25 : decode prog_4_method_7_code 25 = .ok (.if_icmp .ge (21), 3) := by decide +kernel
theorem d_A_onLowerCycle_28 : decode prog_4_method_7_code 28 = .ok (.aload_n 0, 1) := by decide +kernel
theorem d_A_onLowerCycle_29 : decode prog_4_method_7_code 29 = .ok (.invokevirtual 96, 3) := by decide +kernel
theorem d_A_onLowerCycle_32 : decode prog_4_method_7_code 32 = .ok (.istore_n 1, 1) := by decide +kernel
theorem d_A_onLowerCycle_33 : decode prog_4_method_7_code 33 = .ok (.iload_n 1, 1) := by decide +kernel
theorem d_A_onLowerCycle_34 : decode prog_4_method_7_code 34 = .ok (.iconst (-1), 1) := by decide +kernel
theorem d_A_onLowerCycle_35 : decode prog_4_method_7_code 35 = .ok (.if_icmp .ne (5), 3) := by decide +kernel
theorem d_A_onLowerCycle_38 : decode prog_4_method_7_code 38 = .ok (.iconst (-1), 1) := by decide +kernel
theorem d_A_onLowerCycle_39 : decode prog_4_method_7_code 39 = .ok (.ireturn, 1) := by decide +kernel
theorem d_A_onLowerCycle_40 : decode prog_4_method_7_code 40 = .ok (.iinc 2 (1), 3) := by decide +kernel
theorem d_A_onLowerCycle_43 : decode prog_4_method_7_code 43 = .ok (.goto (-23), 3) := by decide +kernel
theorem d_A_onLowerCycle_46 : decode prog_4_method_7_code 46 = .ok (.iconst 0, 1) := by decide +kernel
theorem d_A_onLowerCycle_47 : decode prog_4_method_7_code 47 = .ok (.istore_n 2, 1) := by decide +kernel
theorem d_A_onLowerCycle_48 : decode prog_4_method_7_code 48 = .ok (.iload_n 2, 1) := by decide +kernel
theorem d_A_onLowerCycle_49 : decode prog_4_method_7_code 49 = .ok (.aload_n 0, 1) := by decide +kernel
theorem d_A_onLowerCycle_50 : decode prog_4_method_7_code 50 = .ok (.getfield 22, 3) := by decide +kernel
theorem d_A_onLowerCycle_53 : decode prog_4_method_7_code 53 = .ok (.if_icmp .ge (20), 3) := by decide +kernel
theorem d_A_onLowerCycle_56 : decode prog_4_method_7_code 56 = .ok (.iload_n 1, 1) := by decide +kernel
theorem d_A_onLowerCycle_57 : decode prog_4_method_7_code 57 = .ok (.iconst (-1), 1) := by decide +kernel
theorem d_A_onLowerCycle_58 : decode prog_4_method_7_code 58 = .ok (.if_icmp .eq (15), 3) := by decide +kernel
theorem d_A_onLowerCycle_61 : decode prog_4_method_7_code 61 = .ok (.aload_n 0, 1) := by decide +kernel
theorem d_A_onLowerCycle_62 : decode prog_4_method_7_code 62 = .ok (.iload_n 1, 1) := by decide +kernel
theorem d_A_onLowerCycle_63 : decode prog_4_method_7_code 63 = .ok (.invokevirtual 99, 3) := by decide +kernel
theorem d_A_onLowerCycle_66 : decode prog_4_method_7_code 66 = .ok (.istore_n 1, 1) := by decide +kernel
theorem d_A_onLowerCycle_67 : decode prog_4_method_7_code 67 = .ok (.iinc 2 (1), 3) := by decide +kernel
theorem d_A_onLowerCycle_70 : decode prog_4_method_7_code 70 = .ok (.goto (-22), 3) := by decide +kernel
theorem d_A_onLowerCycle_73 : decode prog_4_method_7_code 73 = .ok (.iload_n 1, 1) := by decide +kernel
theorem d_A_onLowerCycle_74 : decode prog_4_method_7_code 74 = .ok (.ireturn, 1) := by decide +kernel
theorem d_A_shrinkAll_0 : decode prog_4_method_8_code 0 = .ok (.iconst (-1), 1) := by decide +kernel
theorem d_A_shrinkAll_1 : decode prog_4_method_8_code 1 = .ok (.istore_n 1, 1) := by decide +kernel
theorem d_A_shrinkAll_2 : decode prog_4_method_8_code 2 = .ok (.iconst 0, 1) := by decide +kernel
theorem d_A_shrinkAll_3 : decode prog_4_method_8_code 3 = .ok (.istore_n 2, 1) := by decide +kernel
theorem d_A_shrinkAll_4 : decode prog_4_method_8_code 4 = .ok (.iload_n 2, 1) := by decide +kernel
theorem d_A_shrinkAll_5 : decode prog_4_method_8_code 5 = .ok (.aload_n 0, 1) := by decide +kernel
theorem d_A_shrinkAll_6 : decode prog_4_method_8_code 6 = .ok (.getfield 25, 3) := by decide +kernel
theorem d_A_shrinkAll_9 : decode prog_4_method_8_code 9 = .ok (.if_icmp .ge (96), 3) := by decide +kernel
theorem d_A_shrinkAll_12 : decode prog_4_method_8_code 12 = .ok (.aload_n 0, 1) := by decide +kernel
theorem d_A_shrinkAll_13 : decode prog_4_method_8_code 13 = .ok (.getfield 35, 3) := by decide +kernel
theorem d_A_shrinkAll_16 : decode prog_4_method_8_code 16 = .ok (.iload_n 2, 1) := by decide +kernel
theorem d_A_shrinkAll_17 : decode prog_4_method_8_code 17 = .ok (.iaload, 1) := by decide +kernel
theorem d_A_shrinkAll_18 : decode prog_4_method_8_code 18 = .ok (.aload_n 0, 1) := by decide +kernel
theorem d_A_shrinkAll_19 : decode prog_4_method_8_code 19 = .ok (.getfield 19, 3) := by decide +kernel
theorem d_A_shrinkAll_22 : decode prog_4_method_8_code 22 = .ok (.imul, 1) := by decide +kernel
theorem d_A_shrinkAll_23 : decode prog_4_method_8_code 23 = .ok (.aload_n 0, 1) := by decide +kernel
theorem d_A_shrinkAll_24 : decode prog_4_method_8_code 24 = .ok (.getfield 38, 3) := by decide +kernel
theorem d_A_shrinkAll_27 : decode prog_4_method_8_code 27 = .ok (.iload_n 2, 1) := by decide +kernel
theorem d_A_shrinkAll_28 : decode prog_4_method_8_code 28 = .ok (.iaload, 1) := by decide +kernel
theorem d_A_shrinkAll_29 : decode prog_4_method_8_code 29 = .ok (.aload_n 0, 1) := by decide +kernel
theorem d_A_shrinkAll_30 : decode prog_4_method_8_code 30 = .ok (.getfield 15, 3) := by decide +kernel
theorem d_A_shrinkAll_33 : decode prog_4_method_8_code 33 = .ok (.imul, 1) := by decide +kernel
theorem d_A_shrinkAll_34 : decode prog_4_method_8_code 34 = .ok (.isub, 1) := by decide +kernel
theorem d_A_shrinkAll_35 : decode prog_4_method_8_code 35 = .ok (.istore_n 3, 1) := by decide +kernel
theorem d_A_shrinkAll_36 : decode prog_4_method_8_code 36 = .ok (.aload_n 0, 1) := by decide +kernel
theorem d_A_shrinkAll_37 : decode prog_4_method_8_code 37 = .ok (.getfield 41, 3) := by decide +kernel
theorem d_A_shrinkAll_40 : decode prog_4_method_8_code 40 = .ok (.aload_n 0, 1) := by decide +kernel
theorem d_A_shrinkAll_41 : decode prog_4_method_8_code 41 = .ok (.getfield 28, 3) := by decide +kernel
theorem d_A_shrinkAll_44 : decode prog_4_method_8_code 44 = .ok (.iload_n 2, 1) := by decide +kernel
theorem d_A_shrinkAll_45 : decode prog_4_method_8_code 45 = .ok (.iaload, 1) := by decide +kernel
theorem d_A_shrinkAll_46 : decode prog_4_method_8_code 46 = .ok (.iaload, 1) := by decide +kernel
theorem d_A_shrinkAll_47 : decode prog_4_method_8_code 47 = .ok (.iload_n 3, 1) := by decide +kernel
theorem d_A_shrinkAll_48 : decode prog_4_method_8_code 48 = .ok (.iadd, 1) := by decide +kernel
theorem d_A_shrinkAll_49 : decode prog_4_method_8_code 49 = .ok (.istore 4, 2) := by decide +kernel
theorem d_A_shrinkAll_51 : decode prog_4_method_8_code 51 = .ok (.iload 4, 2) := by decide +kernel
theorem d_A_shrinkAll_53 : decode prog_4_method_8_code 53 = .ok (.aload_n 0, 1) := by decide +kernel
theorem d_A_shrinkAll_54 : decode prog_4_method_8_code 54 = .ok (.getfield 41, 3) := by decide +kernel
theorem d_A_shrinkAll_57 : decode prog_4_method_8_code 57 = .ok (.aload_n 0, 1) := by decide +kernel
theorem d_A_shrinkAll_58 : decode prog_4_method_8_code 58 = .ok (.getfield 32, 3) := by decide +kernel
theorem d_A_shrinkAll_61 : decode prog_4_method_8_code 61 = .ok (.iload_n 2, 1) := by decide +kernel
theorem d_A_shrinkAll_62 : decode prog_4_method_8_code 62 = .ok (.iaload, 1) := by decide +kernel
theorem d_A_shrinkAll_63 : decode prog_4_method_8_code 63 = .ok (.iaload, 1) := by decide +kernel
theorem d_A_shrinkAll_64 : decode prog_4_method_8_code 64 = .ok (.if_icmp .ge (35), 3) := by decide +kernel
theorem d_A_shrinkAll_67 : decode prog_4_method_8_code 67 = .ok (.aload_n 0, 1) := by decide +kernel
theorem d_A_shrinkAll_68 : decode prog_4_method_8_code 68 = .ok (.getfield 41, 3) := by decide +kernel
theorem d_A_shrinkAll_71 : decode prog_4_method_8_code 71 = .ok (.aload_n 0, 1) := by decide +kernel
theorem d_A_shrinkAll_72 : decode prog_4_method_8_code 72 = .ok (.getfield 32, 3) := by decide +kernel
theorem d_A_shrinkAll_75 : decode prog_4_method_8_code 75 = .ok (.iload_n 2, 1) := by decide +kernel
theorem d_A_shrinkAll_76 : decode prog_4_method_8_code 76 = .ok (.iaload, 1) := by decide +kernel
theorem d_A_shrinkAll_77 : decode prog_4_method_8_code 77 = .ok (.iload 4, 2) := by decide +kernel
theorem d_A_shrinkAll_79 : decode prog_4_method_8_code 79 = .ok (.iastore, 1) := by decide +kernel
theorem d_A_shrinkAll_80 : decode prog_4_method_8_code 80 = .ok (.aload_n 0, 1) := by decide +kernel
theorem d_A_shrinkAll_81 : decode prog_4_method_8_code 81 = .ok (.getfield 44, 3) := by decide +kernel
theorem d_A_shrinkAll_84 : decode prog_4_method_8_code 84 = .ok (.aload_n 0, 1) := by decide +kernel
theorem d_A_shrinkAll_85 : decode prog_4_method_8_code 85 = .ok (.getfield 32, 3) := by decide +kernel
theorem d_A_shrinkAll_88 : decode prog_4_method_8_code 88 = .ok (.iload_n 2, 1) := by decide +kernel
theorem d_A_shrinkAll_89 : decode prog_4_method_8_code 89 = .ok (.iaload, 1) := by decide +kernel
theorem d_A_shrinkAll_90 : decode prog_4_method_8_code 90 = .ok (.iload_n 2, 1) := by decide +kernel
theorem d_A_shrinkAll_91 : decode prog_4_method_8_code 91 = .ok (.iastore, 1) := by decide +kernel
theorem d_A_shrinkAll_92 : decode prog_4_method_8_code 92 = .ok (.aload_n 0, 1) := by decide +kernel
theorem d_A_shrinkAll_93 : decode prog_4_method_8_code 93 = .ok (.getfield 32, 3) := by decide +kernel
theorem d_A_shrinkAll_96 : decode prog_4_method_8_code 96 = .ok (.iload_n 2, 1) := by decide +kernel
theorem d_A_shrinkAll_97 : decode prog_4_method_8_code 97 = .ok (.iaload, 1) := by decide +kernel
theorem d_A_shrinkAll_98 : decode prog_4_method_8_code 98 = .ok (.istore_n 1, 1) := by decide +kernel
theorem d_A_shrinkAll_99 : decode prog_4_method_8_code 99 = .ok (.iinc 2 (1), 3) := by decide +kernel
theorem d_A_shrinkAll_102 : decode prog_4_method_8_code 102 = .ok (.goto (-98), 3) := by decide +kernel
theorem d_A_shrinkAll_105 : decode prog_4_method_8_code 105 = .ok (.iload_n 1, 1) := by decide +kernel
theorem d_A_shrinkAll_106 : decode prog_4_method_8_code 106 = .ok (.ireturn, 1) := by decide +kernel
theorem d_A_nodeBefore_0 : decode prog_4_method_9_code 0 = .ok (.aload_n 0, 1) := by decide +kernel
theorem d_A_nodeBefore_1 : decode prog_4_method_9_code 1 = .ok (.getfield 44, 3) := by decide +kernel
theorem d_A_nodeBefore_4 : decode prog_4_method_9_code 4 = .ok (.iload_n 1, 1) := by decide +kernel
theorem d_A_nodeBefore_5 : decode prog_4_method_9_code 5 = .ok (.iaload, 1) := by decide +kernel
theorem d_A_nodeBefore_6 : decode prog_4_method_9_code 6 = .ok (.iconst (-1), 1) := by decide +kernel
theorem d_A_nodeBefore_7 : decode prog_4_method_9_code 7 = .ok (.if_icmp .ne (7), 3) := by decide +kernel
theorem d_A_nodeBefore_10 : decode prog_4_method_9_code 10 = .ok (.iconst (-1), 1) := by decide +kernel
theorem d_A_nodeBefore_11 : decode prog_4_method_9_code 11 = .ok (.goto (14), 3) := by decide +kernel
theorem d_A_nodeBefore_14 : decode prog_4_method_9_code 14 = .ok (.aload_n 0, 1) := by decide +kernel
theorem d_A_nodeBefore_15 : decode prog_4_method_9_code 15 = .ok (.getfield 28, 3) := by decide +kernel
theorem d_A_nodeBefore_18 : decode prog_4_method_9_code 18 = .ok (.aload_n 0, 1) := by decide +kernel
theorem d_A_nodeBefore_19 : decode prog_4_method_9_code 19 = .ok (.getfield 44, 3) := by decide +kernel
theorem d_A_nodeBefore_22 : decode prog_4_method_9_code 22 = .ok (.iload_n 1, 1) := by decide +kernel
theorem d_A_nodeBefore_23 : decode prog_4_method_9_code 23 = .ok (.iaload, 1) := by decide +kernel
theorem d_A_nodeBefore_24 : decode prog_4_method_9_code 24 = .ok (.iaload, 1) := by decide +kernel
theorem d_A_nodeBefore_25 : decode prog_4_method_9_code 25 = .ok (.ireturn, 1) := by decide +kernel
theorem d_A_takeRatio_0 : decode prog_4_method_10_code 0 = .ok (.iconst 0, 1) := by decide +kernel
theorem d_A_takeRatio_1 : decode prog_4_method_10_code 1 = .ok (.istore_n 2, 1) := by decide +kernel
theorem d_A_takeRatio_2 : decode prog_4_method_10_code 2 = .ok (.iconst 0, 1) := by decide +kernel
theorem d_A_takeRatio_3 : decode prog_4_method_10_code 3 = .ok (.istore_n 3, 1) := by decide +kernel
theorem d_A_takeRatio_4 : decode prog_4_method_10_code 4 = .ok (.iload_n 1, 1) := by decide +kernel
theorem d_A_takeRatio_5 : decode prog_4_method_10_code 5 = .ok (.istore 4, 2) := by decide +kernel
theorem d_A_takeRatio_7 : decode prog_4_method_10_code 7 = .ok (.iconst 0, 1) := by decide +kernel
theorem d_A_takeRatio_8 : decode prog_4_method_10_code 8 = .ok (.istore 5, 2) := by decide +kernel
theorem d_A_takeRatio_10 : decode prog_4_method_10_code 10 = .ok (.iload 5, 2) := by decide +kernel
theorem d_A_takeRatio_12 : decode prog_4_method_10_code 12 = .ok (.aload_n 0, 1) := by decide +kernel
theorem d_A_takeRatio_13 : decode prog_4_method_10_code 13 = .ok (.getfield 22, 3) := by decide +kernel
theorem d_A_takeRatio_16 : decode prog_4_method_10_code 16 = .ok (.if_icmp .ge (67), 3) := by decide +kernel
theorem d_A_takeRatio_19 : decode prog_4_method_10_code 19 = .ok (.aload_n 0, 1) := by decide +kernel
theorem d_A_takeRatio_20 : decode prog_4_method_10_code 20 = .ok (.getfield 44, 3) := by decide +kernel
theorem d_A_takeRatio_23 : decode prog_4_method_10_code 23 = .ok (.iload 4, 2) := by decide +kernel
theorem d_A_takeRatio_25 : decode prog_4_method_10_code 25 = .ok (.iaload, 1) := by decide +kernel
theorem d_A_takeRatio_26 : decode prog_4_method_10_code 26 = .ok (.iconst (-1), 1) := by decide +kernel
theorem d_A_takeRatio_27 : decode prog_4_method_10_code 27 = .ok (.if_icmp .eq (56), 3) := by decide +kernel
theorem d_A_takeRatio_30 : decode prog_4_method_10_code 30 = .ok (.aload_n 0, 1) := by decide +kernel
theorem d_A_takeRatio_31 : decode prog_4_method_10_code 31 = .ok (.getfield 44, 3) := by decide +kernel
theorem d_A_takeRatio_34 : decode prog_4_method_10_code 34 = .ok (.iload 4, 2) := by decide +kernel
theorem d_A_takeRatio_36 : decode prog_4_method_10_code 36 = .ok (.iaload, 1) := by decide +kernel
theorem d_A_takeRatio_37 : decode prog_4_method_10_code 37 = .ok (.istore 6, 2) := by decide +kernel
theorem d_A_takeRatio_39 : decode prog_4_method_10_code 39 = .ok (.iload_n 2, 1) := by decide +kernel
theorem d_A_takeRatio_40 : decode prog_4_method_10_code 40 = .ok (.aload_n 0, 1) := by decide +kernel
theorem d_A_takeRatio_41 : decode prog_4_method_10_code 41 = .ok (.getfield 35, 3) := by decide +kernel
theorem d_A_takeRatio_44 : decode prog_4_method_10_code 44 = .ok (.iload 6, 2) := by decide +kernel
theorem d_A_takeRatio_46 : decode prog_4_method_10_code 46 = .ok (.iaload, 1) := by decide +kernel
theorem d_A_takeRatio_47 : decode prog_4_method_10_code 47 = .ok (.iadd, 1) := by decide +kernel
theorem d_A_takeRatio_48 : decode prog_4_method_10_code 48 = .ok (.istore_n 2, 1) := by decide +kernel
theorem d_A_takeRatio_49 : decode prog_4_method_10_code 49 = .ok (.iload_n 3, 1) := by decide +kernel
theorem d_A_takeRatio_50 : decode prog_4_method_10_code 50 = .ok (.aload_n 0, 1) := by decide +kernel
theorem d_A_takeRatio_51 : decode prog_4_method_10_code 51 = .ok (.getfield 38, 3) := by decide +kernel
theorem d_A_takeRatio_54 : decode prog_4_method_10_code 54 = .ok (.iload 6, 2) := by decide +kernel
theorem d_A_takeRatio_56 : decode prog_4_method_10_code 56 = .ok (.iaload, 1) := by decide +kernel
theorem d_A_takeRatio_57 : decode prog_4_method_10_code 57 = .ok (.iadd, 1) := by decide +kernel
theorem d_A_takeRatio_58 : decode prog_4_method_10_code 58 = .ok (.istore_n 3, 1) := by decide +kernel
theorem d_A_takeRatio_59 : decode prog_4_method_10_code 59 = .ok (.aload_n 0, 1) := by decide +kernel
theorem d_A_takeRatio_60 : decode prog_4_method_10_code 60 = .ok (.getfield 28, 3) := by decide +kernel
theorem d_A_takeRatio_63 : decode prog_4_method_10_code 63 = .ok (.iload 6, 2) := by decide +kernel
theorem d_A_takeRatio_65 : decode prog_4_method_10_code 65 = .ok (.iaload, 1) := by decide +kernel
theorem d_A_takeRatio_66 : decode prog_4_method_10_code 66 = .ok (.istore 4, 2) := by decide +kernel
theorem d_A_takeRatio_68 : decode prog_4_method_10_code 68 = .ok (.iload 4, 2) := by decide +kernel
theorem d_A_takeRatio_70 : decode prog_4_method_10_code 70 = .ok (.iload_n 1, 1) := by decide +kernel
theorem d_A_takeRatio_71 : decode prog_4_method_10_code 71 = .ok (.if_icmp .ne (6), 3) := by decide +kernel
theorem d_A_takeRatio_74 : decode prog_4_method_10_code 74 = .ok (.goto (9), 3) := by decide +kernel
theorem d_A_takeRatio_77 : decode prog_4_method_10_code 77 = .ok (.iinc 5 (1), 3) := by decide +kernel
theorem d_A_takeRatio_80 : decode prog_4_method_10_code 80 = .ok (.goto (-70), 3) := by decide +kernel
theorem d_A_takeRatio_83 : decode prog_4_method_10_code 83 = .ok (.iload_n 2, 1) := by decide +kernel
theorem d_A_takeRatio_84 : decode prog_4_method_10_code 84 = .ok (.iload_n 3, 1) := by decide +kernel
theorem d_A_takeRatio_85 : decode prog_4_method_10_code 85 = .ok (.invokestatic 103, 3) := by decide +kernel
theorem d_A_takeRatio_88 : decode prog_4_method_10_code 88 = .ok (.istore 5, 2) := by decide +kernel
theorem d_A_takeRatio_90 : decode prog_4_method_10_code 90 = .ok (.aload_n 0, 1) := by decide +kernel
theorem d_A_takeRatio_91 : decode prog_4_method_10_code 91 = .ok (.iload_n 2, 1) := by decide +kernel
theorem d_A_takeRatio_92 : decode prog_4_method_10_code 92 = .ok (.iload 5, 2) := by decide +kernel
theorem d_A_takeRatio_94 : decode prog_4_method_10_code 94 = .ok (.idiv, 1) := by decide +kernel
theorem d_A_takeRatio_95 : decode prog_4_method_10_code 95 = .ok (.putfield 15, 3) := by decide +kernel
theorem d_A_takeRatio_98 : decode prog_4_method_10_code 98 = .ok (.aload_n 0, 1) := by decide +kernel
theorem d_A_takeRatio_99 : decode prog_4_method_10_code 99 = .ok (.iload_n 3, 1) := by decide +kernel
theorem d_A_takeRatio_100 : decode prog_4_method_10_code 100 = .ok (.iload 5, 2) := by decide +kernel
theorem d_A_takeRatio_102 : decode prog_4_method_10_code 102 = .ok (.idiv, 1) := by decide +kernel
theorem d_A_takeRatio_103 : decode prog_4_method_10_code 103 = .ok (.putfield 19, 3) := by decide +kernel
theorem d_A_takeRatio_106 : decode prog_4_method_10_code 106 = .ok (.return_, 1) := by decide +kernel
theorem d_A_commonDivisor_0 : decode prog_4_method_11_code 0 = .ok (.iload_n 0, 1) := by decide +kernel
theorem d_A_commonDivisor_1 : decode prog_4_method_11_code 1 = .ok (.iload_n 1, 1) := by decide +kernel
theorem d_A_commonDivisor_2 : decode prog_4_method_11_code 2 = .ok (.invokestatic 107, 3) := by decide +kernel
theorem d_A_commonDivisor_5 : decode prog_4_method_11_code 5 = .ok (.istore_n 2, 1) := by decide +kernel
theorem d_A_commonDivisor_6 : decode prog_4_method_11_code 6 = .ok (.iload_n 2, 1) := by decide +kernel
theorem d_A_commonDivisor_7 : decode prog_4_method_11_code 7 = .ok (.iconst 1, 1) := by decide +kernel
theorem d_A_commonDivisor_8 : decode prog_4_method_11_code 8 = .ok (.if_icmp .le (23), 3) := by decide +kernel
theorem d_A_commonDivisor_11 : decode prog_4_method_11_code 11 = .ok (.iload_n 0, 1) := by decide +kernel
theorem d_A_commonDivisor_12 : decode prog_4_method_11_code 12 = .ok (.iload_n 2, 1) := by decide +kernel
theorem d_A_commonDivisor_13 : decode prog_4_method_11_code 13 = .ok (.irem, 1) := by decide +kernel
theorem d_A_commonDivisor_14 : decode prog_4_method_11_code 14 = .ok (.ifCond .ne (11), 3) := by decide +kernel
theorem d_A_commonDivisor_17 : decode prog_4_method_11_code 17 = .ok (.iload_n 1, 1) := by decide +kernel
theorem d_A_commonDivisor_18 : decode prog_4_method_11_code 18 = .ok (.iload_n 2, 1) := by decide +kernel
theorem d_A_commonDivisor_19 : decode prog_4_method_11_code 19 = .ok (.irem, 1) := by decide +kernel
theorem d_A_commonDivisor_20 : decode prog_4_method_11_code 20 = .ok (.ifCond .ne (5), 3) := by decide +kernel
theorem d_A_commonDivisor_23 : decode prog_4_method_11_code 23 = .ok (.iload_n 2, 1) := by decide +kernel
theorem d_A_commonDivisor_24 : decode prog_4_method_11_code 24 = .ok (.ireturn, 1) := by decide +kernel
theorem d_A_commonDivisor_25 : decode prog_4_method_11_code 25 = .ok (.iinc 2 (-1), 3) := by decide +kernel
theorem d_A_commonDivisor_28 : decode prog_4_method_11_code 28 = .ok (.goto (-22), 3) := by decide +kernel
theorem d_A_commonDivisor_31 : decode prog_4_method_11_code 31 = .ok (.iconst 1, 1) := by decide +kernel
theorem d_A_commonDivisor_32 : decode prog_4_method_11_code 32 = .ok (.ireturn, 1) := by decide +kernel
