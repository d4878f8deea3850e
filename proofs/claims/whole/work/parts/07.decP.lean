theorem d_P_init_0 : decode prog_5_method_1_code 0 = .ok (.aload_n 0, 1) := by decide +kernel
theorem d_P_init_1 : decode prog_5_method_1_code 1 = .ok (.invokespecial 3, 3) := by decide +kernel
theorem d_P_init_4 : decode prog_5_method_1_code 4 = .ok (.aload_n 0, 1) := by decide +kernel
theorem d_P_init_5 : decode prog_5_method_1_code 5 = .ok (.iconst 0, 1) := by decide +kernel
theorem d_P_init_6 : decode prog_5_method_1_code 6 = .ok (.putfield 9, 3) := by decide +kernel
theorem d_P_init_9 : decode prog_5_method_1_code 9 = .ok (.aload_n 0, 1) := by decide +kernel
theorem d_P_init_10 : decode prog_5_method_1_code 10 = .ok (.sipush (160), 3) := by decide +kernel
theorem d_P_init_13 : decode prog_5_method_1_code 13 = .ok (.newarray .int, 2) := by decide +kernel
theorem d_P_init_15 : decode prog_5_method_1_code 15 = .ok (.putfield 15, 3) := by decide +kernel
theorem d_P_init_18 : decode prog_5_method_1_code 18 = .ok (.aload_n 0, 1) := by decide +kernel
theorem d_P_init_19 : decode prog_5_method_1_code 19 = .ok (.bipush (80), 2) := by decide +kernel
theorem d_P_init_21 : decode prog_5_method_1_code 21 = .ok (.newarray .int, 2) := by decide +kernel
theorem d_P_init_23 : decode prog_5_method_1_code 23 = .ok (.putfield 19, 3) := by decide +kernel
theorem d_P_init_26 : decode prog_5_method_1_code 26 = .ok (.aload_n 0, 1) := by decide +kernel
theorem d_P_init_27 : decode prog_5_method_1_code 27 = .ok (.bipush (80), 2) := by decide +kernel
theorem d_P_init_29 : decode prog_5_method_1_code 29 = .ok (.newarray .int, 2) := by decide +kernel
theorem d_P_init_31 : decode prog_5_method_1_code 31 = .ok (.putfield 22, 3) := by decide +kernel
theorem d_P_init_34 : decode prog_5_method_1_code 34 = .ok (.aload_n 0, 1) := by decide +kernel
theorem d_P_init_35 : decode prog_5_method_1_code 35 = .ok (.bipush (24), 2) := by decide +kernel
theorem d_P_init_37 : decode prog_5_method_1_code 37 = .ok (.newarray .int, 2) := by decide +kernel
theorem d_P_init_39 : decode prog_5_method_1_code 39 = .ok (.putfield 25, 3) := by decide +kernel
theorem d_P_init_42 : decode prog_5_method_1_code 42 = .ok (.aload_n 0, 1) := by decide +kernel
theorem d_P_init_43 : decode prog_5_method_1_code 43 = .ok (.bipush (10), 2) := by decide +kernel
theorem d_P_init_45 : decode prog_5_method_1_code 45 = .ok (.newarray .int, 2) := by decide +kernel
theorem d_P_init_47 : decode prog_5_method_1_code 47 = .ok (.putfield 28, 3) := by decide +kernel
theorem d_P_init_50 : decode prog_5_method_1_code 50 = .ok (.aload_n 0, 1) := by decide +kernel
theorem d_P_init_51 : decode prog_5_method_1_code 51 = .ok (.bipush (10), 2) := by decide +kernel
theorem d_P_init_53 : decode prog_5_method_1_code 53 = .ok (.newarray .int, 2) := by decide +kernel
theorem d_P_init_55 : decode prog_5_method_1_code 55 = .ok (.putfield 31, 3) := by decide +kernel
theorem d_P_init_58 : decode prog_5_method_1_code 58 = .ok (.aload_n 0, 1) := by decide +kernel
theorem d_P_init_59 : decode prog_5_method_1_code 59 = .ok (.bipush (10), 2) := by decide +kernel
theorem d_P_init_61 : decode prog_5_method_1_code 61 = .ok (.newarray .int, 2) := by decide +kernel
theorem d_P_init_63 : decode prog_5_method_1_code 63 = .ok (.putfield 34, 3) := by decide +kernel
theorem d_P_init_66 : decode prog_5_method_1_code 66 = .ok (.aload_n 0, 1) := by decide +kernel
theorem d_P_init_67 : decode prog_5_method_1_code 67 = .ok (.iconst 0, 1) := by decide +kernel
theorem d_P_init_68 : decode prog_5_method_1_code 68 = .ok (.putfield 37, 3) := by decide +kernel
theorem d_P_init_71 : decode prog_5_method_1_code 71 = .ok (.aload_n 0, 1) := by decide +kernel
theorem d_P_init_72 : decode prog_5_method_1_code 72 = .ok (.iconst 4, 1) := by decide +kernel
theorem d_P_init_73 : decode prog_5_method_1_code 73 = .ok (.newarray .int, 2) := by decide +kernel
theorem d_P_init_75 : decode prog_5_method_1_code 75 = .ok (.putfield 40, 3) := by decide +kernel
theorem d_P_init_78 : decode prog_5_method_1_code 78 = .ok (.aload_n 0, 1) := by decide +kernel
theorem d_P_init_79 : decode prog_5_method_1_code 79 = .ok (.iconst 4, 1) := by decide +kernel
theorem d_P_init_80 : decode prog_5_method_1_code 80 = .ok (.newarray .int, 2) := by decide +kernel
theorem d_P_init_82 : decode prog_5_method_1_code 82 = .ok (.putfield 43, 3) := by decide +kernel
theorem d_P_init_85 : decode prog_5_method_1_code 85 = .ok (.aload_n 0, 1) := by decide +kernel
theorem d_P_init_86 : decode prog_5_method_1_code 86 = .ok (.iconst 4, 1) := by decide +kernel
theorem d_P_init_87 : decode prog_5_method_1_code 87 = .ok (.sipush (1000), 3) := by decide +kernel
theorem d_P_init_90 : decode prog_5_method_1_code 90 = .ok (.multianewarray 46 2, 4) := by decide +kernel
theorem d_P_init_94 : decode prog_5_method_1_code 94 = .ok (.putfield 48, 3) := by decide +kernel
theorem d_P_init_97 : decode prog_5_method_1_code 97 = .ok (.aload_n 0, 1) := by decide +kernel
theorem d_P_init_98 : decode prog_5_method_1_code 98 = .ok (.iconst 4, 1) := by decide +kernel
theorem d_P_init_99 : decode prog_5_method_1_code 99 = .ok (.newarray .int, 2) := by decide +kernel
theorem d_P_init_101 : decode prog_5_method_1_code 101 = .ok (.putfield 51, 3) := by decide +kernel
theorem d_P_init_104 : decode prog_5_method_1_code 104 = .ok (.aload_n 0, 1) := by decide +kernel
theorem d_P_init_105 : decode prog_5_method_1_code 105 = .ok (.iconst 4, 1) := by decide +kernel
theorem d_P_init_106 : decode prog_5_method_1_code 106 = .ok (.sipush (1000), 3) := by decide +kernel
theorem d_P_init_109 : decode prog_5_method_1_code 109 = .ok (.multianewarray 54 2, 4) := by decide +kernel
theorem d_P_init_113 : decode prog_5_method_1_code 113 = .ok (.putfield 56, 3) := by decide +kernel
theorem d_P_init_116 : decode prog_5_method_1_code 116 = .ok (.aload_n 0, 1) := by decide +kernel
theorem d_P_init_117 : decode prog_5_method_1_code 117 = .ok (.aload_n 1, 1) := by decide +kernel
theorem d_P_init_118 : decode prog_5_method_1_code 118 = .ok (.putfield 59, 3) := by decide +kernel
theorem d_P_init_121 : decode prog_5_method_1_code 121 = .ok (.return_, 1) := by decide +kernel
theorem d_P_reset_0 : decode prog_5_method_2_code 0 = .ok (.aload_n 0, 1) := by decide +kernel
theorem d_P_reset_1 : decode prog_5_method_2_code 1 = .ok (.iconst 0, 1) := by decide +kernel
theorem d_P_reset_2 : decode prog_5_method_2_code 2 = .ok (.putfield 9, 3) := by decide +kernel
theorem d_P_reset_5 : decode prog_5_method_2_code 5 = .ok (.aload_n 0, 1) := by decide +kernel
theorem d_P_reset_6 : decode prog_5_method_2_code 6 = .ok (.iconst 0, 1) := by decide +kernel
theorem d_P_reset_7 : decode prog_5_method_2_code 7 = .ok (.putfield 37, 3) := by decide +kernel
theorem d_P_reset_10 : decode prog_5_method_2_code 10 = .ok (.aload_n 0, 1) := by decide +kernel
theorem d_P_reset_11 : decode prog_5_method_2_code 11 = .ok (.getfield 28, 3) := by decide +kernel
theorem d_P_reset_14 : decode prog_5_method_2_code 14 = .ok (.iconst 0, 1) := by decide +kernel
theorem d_P_reset_15 : decode prog_5_method_2_code 15 = .ok (.invokestatic 63, 3) := by decide +kernel
theorem d_P_reset_18 : decode prog_5_method_2_code 18 = .ok (.aload_n 0, 1) := by decide +kernel
theorem d_P_reset_19 : decode prog_5_method_2_code 19 = .ok (.getfield 31, 3) := by decide +kernel
theorem d_P_reset_22 : decode prog_5_method_2_code 22 = .ok (.iconst 0, 1) := by decide +kernel
theorem d_P_reset_23 : decode prog_5_method_2_code 23 = .ok (.invokestatic 63, 3) := by decide +kernel
theorem d_P_reset_26 : decode prog_5_method_2_code 26 = .ok (.aload_n 0, 1) := by decide +kernel
theorem d_P_reset_27 : decode prog_5_method_2_code 27 = .ok (.getfield 43, 3) := by decide +kernel
theorem d_P_reset_30 : decode prog_5_method_2_code 30 = .ok (.iconst 0, 1) := by decide +kernel
theorem d_P_reset_31 : decode prog_5_method_2_code 31 = .ok (.invokestatic 63, 3) := by decide +kernel
theorem d_P_reset_34 : decode prog_5_method_2_code 34 = .ok (.aload_n 0, 1) := by decide +kernel
theorem d_P_reset_35 : decode prog_5_method_2_code 35 = .ok (.getfield 51, 3) := by decide +kernel
theorem d_P_reset_38 : decode prog_5_method_2_code 38 = .ok (.iconst 0, 1) := by decide +kernel
theorem d_P_reset_39 : decode prog_5_method_2_code 39 = .ok (.invokestatic 63, 3) := by decide +kernel
theorem d_P_reset_42 : decode prog_5_method_2_code 42 = .ok (.aload_n 0, 1) := by decide +kernel
theorem d_P_reset_43 : decode prog_5_method_2_code 43 = .ok (.getfield 19, 3) := by decide +kernel
theorem d_P_reset_46 : decode prog_5_method_2_code 46 = .ok (.iconst 0, 1) := by decide +kernel
theorem d_P_reset_47 : decode prog_5_method_2_code 47 = .ok (.invokestatic 63, 3) := by decide +kernel
theorem d_P_reset_50 : decode prog_5_method_2_code 50 = .ok (.iconst 0, 1) := by decide +kernel
theorem d_P_reset_51 : decode prog_5_method_2_code 51 = .ok (.istore_n 1, 1) := by decide +kernel
theorem d_P_reset_52 : decode prog_5_method_2_code 52 = .ok (.iload_n 1, 1) := by decide +kernel
theorem d_P_reset_53 : decode prog_5_method_2_code 53 = .ok (.aload_n 0, 1) := by decide +kernel
theorem d_P_reset_54 : decode prog_5_method_2_code 54 = .ok (.getfield 59, 3) := by decide +kernel
theorem d_P_reset_57 : decode prog_5_method_2_code 57 = .ok (.getfield 69, 3) := by decide +kernel
theorem d_P_reset_60 : decode prog_5_method_2_code 60 = .ok (.if_icmp .ge (25), 3) := by decide +kernel
theorem d_P_reset_63 : decode prog_5_method_2_code 63 = .ok (.aload_n 0, 1) := by decide +kernel
theorem d_P_reset_64 : decode prog_5_method_2_code 64 = .ok (.iload_n 1, 1) := by decide +kernel
theorem d_P_reset_65 : decode prog_5_method_2_code 65 = .ok (.iconst 4, 1) := by decide +kernel
theorem d_P_reset_66 : decode prog_5_method_2_code 66 = .ok (.imul, 1) := by decide +kernel
theorem d_P_reset_67 : decode prog_5_method_2_code 67 = .ok (.aload_n 0, 1) := by decide +kernel
theorem d_P_reset_68 : decode prog_5_method_2_code 68 = .ok (.getfield 59, 3) := by decide +kernel
theorem d_P_reset_71 : decode prog_5_method_2_code 71 = .ok (.getfield 74, 3) := by decide +kernel
theorem d_P_reset_74 : decode prog_5_method_2_code 74 = .ok (.iload_n 1, 1) := by decide +kernel
theorem d_P_reset_75 : decode prog_5_method_2_code 75 = .ok (.iaload, 1) := by decide +kernel
theorem d_P_reset_76 : decode prog_5_method_2_code 76 = .ok (.invokevirtual 77, 3) := by decide +kernel
theorem d_P_reset_79 : decode prog_5_method_2_code 79 = .ok (.iinc 1 (1), 3) := by decide +kernel
theorem d_P_reset_82 : decode prog_5_method_2_code 82 = .ok (.goto (-30), 3) := by decide +kernel
theorem d_P_reset_85 : decode prog_5_method_2_code 85 = .ok (.return_, 1) := by decide +kernel
theorem d_P_letWait_0 : decode prog_5_method_3_code 0 = .ok (.aload_n 0, 1) := by decide +kernel
theorem d_P_letWait_1 : decode prog_5_method_3_code 1 = .ok (.iload_n 1, 1) := by decide +kernel
theorem d_P_letWait_2 : decode prog_5_method_3_code 2 = .ok (.invokevirtual 81, 3) := by decide +kernel
theorem d_P_letWait_5 : decode prog_5_method_3_code 5 = .ok (.ifCond .ne (15), 3) := by decide +kernel
theorem d_P_letWait_8 : decode prog_5_method_3_code 8 = .ok (.aload_n 0, 1) := by decide +kernel
theorem d_P_letWait_9 : decode prog_5_method_3_code 9 = .ok (.getfield 43, 3) := by decide +kernel
theorem d_P_letWait_12 : decode prog_5_method_3_code 12 = .ok (.iload_n 1, 1) := by decide +kernel
theorem d_P_letWait_13 : decode prog_5_method_3_code 13 = .ok (.iaload, 1) := by decide +kernel
theorem d_P_letWait_14 : decode prog_5_method_3_code 14 = .ok (.sipush (1000), 3) := by decide +kernel
theorem d_P_letWait_17 : decode prog_5_method_3_code 17 = .ok (.if_icmp .lt (5), 3) := by decide +kernel
theorem d_P_letWait_20 : decode prog_5_method_3_code 20 = .ok (.iconst 0, 1) := by decide +kernel
theorem d_P_letWait_21 : decode prog_5_method_3_code 21 = .ok (.ireturn, 1) := by decide +kernel
theorem d_P_letWait_22 : decode prog_5_method_3_code 22 = .ok (.aload_n 0, 1) := by decide +kernel
theorem d_P_letWait_23 : decode prog_5_method_3_code 23 = .ok (.dup, 1) := by decide +kernel
theorem d_P_letWait_24 : decode prog_5_method_3_code 24 = .ok (.getfield 37, 3) := by decide +kernel
theorem d_P_letWait_27 : decode prog_5_method_3_code 27 = .ok (.iconst 1, 1) := by decide +kernel
theorem d_P_letWait_28 : decode prog_5_method_3_code 28 = .ok (.iload_n 1, 1) := by decide +kernel
theorem d_P_letWait_29 : decode prog_5_method_3_code 29 = .ok (.ishl, 1) := by decide +kernel
theorem d_P_letWait_30 : decode prog_5_method_3_code 30 = .ok (.ior, 1) := by decide +kernel
theorem d_P_letWait_31 : decode prog_5_method_3_code 31 = .ok (.putfield 37, 3) := by decide +kernel
theorem d_P_letWait_34 : decode prog_5_method_3_code 34 = .ok (.aload_n 0, 1) := by decide +kernel
theorem d_P_letWait_35 : decode prog_5_method_3_code 35 = .ok (.getfield 40, 3) := by decide +kernel
theorem d_P_letWait_38 : decode prog_5_method_3_code 38 = .ok (.iload_n 1, 1) := by decide +kernel
theorem d_P_letWait_39 : decode prog_5_method_3_code 39 = .ok (.iload_n 2, 1) := by decide +kernel
theorem d_P_letWait_40 : decode prog_5_method_3_code 40 = .ok (.iastore, 1) := by decide +kernel
theorem d_P_letWait_41 : decode prog_5_method_3_code 41 = .ok (.iconst 1, 1) := by decide +kernel
theorem d_P_letWait_42 : decode prog_5_method_3_code 42 = .ok (.ireturn, 1) := by decide +kernel
theorem d_P_waitsAt_0 : decode prog_5_method_4_code 0 = .ok (.aload_n 0, 1) := by decide +kernel
theorem d_P_waitsAt_1 : decode prog_5_method_4_code 1 = .ok (.getfield 37, 3) := by decide +kernel
theorem d_P_waitsAt_4 : decode prog_5_method_4_code 4 = .ok (.iload_n 1, 1) := by decide +kernel
theorem d_P_waitsAt_5 : decode prog_5_method_4_code 5 = .ok (.ishr, 1) := by decide +kernel
theorem d_P_waitsAt_6 : decode prog_5_method_4_code 6 = .ok (.iconst 1, 1) := by decide +kernel
theorem d_P_waitsAt_7 : decode prog_5_method_4_code 7 = .ok (.iand, 1) := by decide +kernel
theorem d_P_waitsAt_8 : decode prog_5_method_4_code 8 = .ok (.iconst 1, 1) := by decide +kernel
theorem d_P_waitsAt_9 : decode prog_5_method_4_code 9 = .ok (.if_icmp .ne (7), 3) := by decide +kernel
theorem d_P_waitsAt_12 : decode prog_5_method_4_code 12 = .ok (.iconst 1, 1) := by decide +kernel
theorem d_P_waitsAt_13 : decode prog_5_method_4_code 13 = .ok (.goto (4), 3) := by decide +kernel
theorem d_P_waitsAt_16 : decode prog_5_method_4_code 16 = .ok (.iconst 0, 1) := by decide +kernel
theorem d_P_waitsAt_17 : decode prog_5_method_4_code 17 = .ok (.ireturn, 1) := by decide +kernel
theorem d_P_leastTaken_0 : decode prog_5_method_5_code 0 = .ok (.sipush (1000), 3) := by decide +kernel
theorem d_P_leastTaken_3 : decode prog_5_method_5_code 3 = .ok (.istore_n 1, 1) := by decide +kernel
theorem d_P_leastTaken_4 : decode prog_5_method_5_code 4 = .ok (.iconst 0, 1) := by decide +kernel
theorem d_P_leastTaken_5 : decode prog_5_method_5_code 5 = .ok (.istore_n 2, 1) := by decide +kernel
theorem d_P_leastTaken_6 : decode prog_5_method_5_code 6 = .ok (.iload_n 2, 1) := by decide +kernel
theorem d_P_leastTaken_7 : decode prog_5_method_5_code 7 = .ok (.aload_n 0, 1) := by decide +kernel
theorem d_P_leastTaken_8 : decode prog_5_method_5_code 8 = .ok (.getfield 59, 3) := by decide +kernel
theorem d_P_leastTaken_11 : decode prog_5_method_5_code 11 = .ok (.getfield 85, 3) := by decide +kernel
theorem d_P_leastTaken_14 : decode prog_5_method_5_code 14 = .ok (.if_icmp .ge (20), 3) := by decide +kernel
theorem d_P_leastTaken_17 : decode prog_5_method_5_code 17 = .ok (.iload_n 1, 1) := by decide +kernel
theorem d_P_leastTaken_18 : decode prog_5_method_5_code 18 = .ok (.aload_n 0, 1) := by decide +kernel
theorem d_P_leastTaken_19 : decode prog_5_method_5_code 19 = .ok (.getfield 43, 3) := by decide +kernel
theorem d_P_leastTaken_22 : decode prog_5_method_5_code 22 = .ok (.iload_n 2, 1) := by decide +kernel
theorem d_P_leastTaken_23 : decode prog_5_method_5_code 23 = .ok (.iaload, 1) := by decide +kernel
theorem d_P_leastTaken_24 : decode prog_5_method_5_code 24 = .ok (.invokestatic 88, 3) := by decide +kernel
theorem d_P_leastTaken_27 : decode prog_5_method_5_code 27 = .ok (.istore_n 1, 1) := by decide +kernel
theorem d_P_leastTaken_28 : decode prog_5_method_5_code 28 = .ok (.iinc 2 (1), 3) := by decide +kernel
theorem d_P_leastTaken_31 : decode prog_5_method_5_code 31 = .ok (.goto (-25), 3) := by decide +kernel
theorem d_P_leastTaken_34 : decode prog_5_method_5_code 34 = .ok (.iload_n 1, 1) := by decide +kernel
theorem d_P_leastTaken_35 : decode prog_5_method_5_code 35 = .ok (.ireturn, 1) := by decide +kernel
theorem d_P_step_0 : decode prog_5_method_6_code 0 = .ok (.aload_n 0, 1) := by decide +kernel
theorem d_P_step_1 : decode prog_5_method_6_code 1 = .ok (.invokevirtual 94, 3) := by decide +kernel
theorem d_P_step_4 : decode prog_5_method_6_code 4 = .ok (.iconst 0, 1) := by decide +kernel
theorem d_P_step_5 : decode prog_5_method_6_code 5 = .ok (.istore_n 2, 1) := by decide +kernel
theorem d_P_step_6 : decode prog_5_method_6_code 6 = .ok (.iload_n 2, 1) := by decide +kernel
theorem d_P_step_7 : decode prog_5_method_6_code 7 = .ok (.aload_n 0, 1) := by decide +kernel
theorem d_P_step_8 : decode prog_5_method_6_code 8 = .ok (.getfield 59, 3) := by decide +kernel
theorem d_P_step_11 : decode prog_5_method_6_code 11 = .ok (.getfield 97, 3) := by decide +kernel
theorem d_P_step_14 : decode prog_5_method_6_code 14 = .ok (.if_icmp .ge (33), 3) := by decide +kernel
theorem d_P_step_17 : decode prog_5_method_6_code 17 = .ok (.aload_n 0, 1) := by decide +kernel
theorem d_P_step_18 : decode prog_5_method_6_code 18 = .ok (.getfield 34, 3) := by decide +kernel
theorem d_P_step_21 : decode prog_5_method_6_code 21 = .ok (.iload_n 2, 1) := by decide +kernel
theorem d_P_step_22 : decode prog_5_method_6_code 22 = .ok (.aload_n 0, 1) := by decide +kernel
theorem d_P_step_23 : decode prog_5_method_6_code 23 = .ok (.iload_n 2, 1) := by decide +kernel
theorem d_P_step_24 : decode prog_5_method_6_code 24 = .ok (.invokevirtual 100, 3) := by decide +kernel
theorem d_P_step_27 : decode prog_5_method_6_code 27 = .ok (.ifCond .eq (12), 3) := by decide +kernel
theorem d_P_step_30 : decode prog_5_method_6_code 30 = .ok (.aload_n 0, 1) := by decide +kernel
theorem d_P_step_31 : decode prog_5_method_6_code 31 = .ok (.iload_n 2, 1) := by decide +kernel
theorem d_P_step_32 : decode prog_5_method_6_code 32 = .ok (.iload_n 1, 1) := by decide +kernel
theorem d_P_step_33 : decode prog_5_method_6_code 33 = .ok (.invokevirtual 103, 3) := by decide +kernel
theorem d_P_step_36 : decode prog_5_method_6_code 36 = .ok (.goto (4), 3) := by decide +kernel
theorem d_P_step_39 : decode prog_5_method_6_code 39 = .ok (.iconst (-1), 1) := by decide +kernel
theorem d_P_step_40 : decode prog_5_method_6_code 40 = .ok (.iastore, 1) := by decide +kernel
theorem d_P_step_41 : decode prog_5_method_6_code 41 = .ok (.iinc 2 (1), 3) := by decide +kernel
theorem d_P_step_44 : decode prog_5_method_6_code 44 = .ok (.goto (-38), 3) := by decide +kernel
theorem d_P_step_47 : decode prog_5_method_6_code 47 = .ok (.iconst 0, 1) := by decide +kernel
theorem d_P_step_48 : decode prog_5_method_6_code 48 = .ok (.istore_n 2, 1) := by decide +kernel
theorem d_P_step_49 : decode prog_5_method_6_code 49 = .ok (.iload_n 2, 1) := by decide +kernel
theorem d_P_step_50 : decode prog_5_method_6_code 50 = .ok (.aload_n 0, 1) := by decide +kernel
theorem d_P_step_51 : decode prog_5_method_6_code 51 = .ok (.getfield 59, 3) := by decide +kernel
theorem d_P_step_54 : decode prog_5_method_6_code 54 = .ok (.getfield 69, 3) := by decide +kernel
theorem d_P_step_57 : decode prog_5_method_6_code 57 = .ok (.if_icmp .ge (14), 3) := by decide +kernel
theorem d_P_step_60 : decode prog_5_method_6_code 60 = .ok (.aload_n 0, 1) := by decide +kernel
theorem d_P_step_61 : decode prog_5_method_6_code 61 = .ok (.iload_n 2, 1) := by decide +kernel
theorem d_P_step_62 : decode prog_5_method_6_code 62 = .ok (.invokevirtual 106, 3) := by decide +kernel
theorem d_P_step_65 : decode prog_5_method_6_code 65 = .ok (.iinc 2 (1), 3) := by decide +kernel
theorem d_P_step_68 : decode prog_5_method_6_code 68 = .ok (.goto (-19), 3) := by decide +kernel
theorem d_P_step_71 : decode prog_5_method_6_code 71 = .ok (.iconst 0, 1) := by decide +kernel
theorem d_P_step_72 : decode prog_5_method_6_code 72 = .ok (.istore_n 2, 1) := by decide +kernel
theorem d_P_step_73 : decode prog_5_method_6_code 73 = .ok (.iconst 0, 1) := by decide +kernel
theorem d_P_step_74 : decode prog_5_method_6_code 74 = .ok (.istore_n 3, 1) := by decide +kernel
theorem d_P_step_75 : decode prog_5_method_6_code 75 = .ok (.iload_n 3, 1) := by decide +kernel
theorem d_P_step_76 : decode prog_5_method_6_code 76 = .ok (.aload_n 0, 1) := by decide +kernel
theorem d_P_step_77 : decode prog_5_method_6_code 77 = .ok (.getfield 59, 3) := by decide +kernel
theorem d_P_step_80 : decode prog_5_method_6_code 80 = .ok (.getfield 97, 3) := by decide +kernel
theorem d_P_step_83 : decode prog_5_method_6_code 83 = .ok (.if_icmp .ge (27), 3) := by decide +kernel
theorem d_P_step_86 : decode prog_5_method_6_code 86 = .ok (.aload_n 0, 1) := by decide +kernel
theorem d_P_step_87 : decode prog_5_method_6_code 87 = .ok (.getfield 34, 3) := by decide +kernel
theorem d_P_step_90 : decode prog_5_method_6_code 90 = .ok (.iload_n 3, 1) := by decide +kernel
theorem d_P_step_91 : decode prog_5_method_6_code 91 = .ok (.iaload, 1) := by decide +kernel
theorem d_P_step_92 : decode prog_5_method_6_code 92 = .ok (.iconst (-1), 1) := by decide +kernel
theorem d_P_step_93 : decode prog_5_method_6_code 93 = .ok (.if_icmp .eq (11), 3) := by decide +kernel
theorem d_P_step_96 : decode prog_5_method_6_code 96 = .ok (.iload_n 2, 1) := by decide +kernel
theorem d_P_step_97 : decode prog_5_method_6_code 97 = .ok (.aload_n 0, 1) := by decide +kernel
theorem d_P_step_98 : decode prog_5_method_6_code 98 = .ok (.iload_n 3, 1) := by decide +kernel
theorem d_P_step_99 : decode prog_5_method_6_code 99 = .ok (.invokevirtual 110, 3) := by decide +kernel
theorem d_P_step_102 : decode prog_5_method_6_code 102 = .ok (.ior, 1) := by decide +kernel
theorem d_P_step_103 : decode prog_5_method_6_code 103 = .ok (.istore_n 2, 1) := by decide +kernel
theorem d_P_step_104 : decode prog_5_method_6_code 104 = .ok (.iinc 3 (1), 3) := by decide +kernel
theorem d_P_step_107 : decode prog_5_method_6_code 107 = .ok (.goto (-32), 3) := by decide +kernel
theorem d_P_step_110 : decode prog_5_method_6_code 110 = .ok (.aload_n 0, 1) := by decide +kernel
theorem d_P_step_111 : decode prog_5_method_6_code 111 = .ok (.dup, 1) := by decide +kernel
theorem d_P_step_112 : decode prog_5_method_6_code 112 = .ok (.getfield 9, 3) := by decide +kernel
theorem d_P_step_115 : decode prog_5_method_6_code 115 = .ok (.iconst 1, 1) := by decide +kernel
theorem d_P_step_116 : decode prog_5_method_6_code 116 = .ok (.iadd, 1) := by decide +kernel
theorem d_P_step_117 : decode prog_5_method_6_code 117 = .ok (.putfield 9, 3) := by decide +kernel
theorem d_P_step_120 : decode prog_5_method_6_code 120 = .ok (.iload_n 2, 1) := by decide +kernel
theorem d_P_step_121 : decode prog_5_method_6_code 121 = .ok (.ireturn, 1) := by decide +kernel
theorem d_P_look_0 : decode prog_5_method_7_code 0 = .ok (.aload_n 0, 1) := by decide +kernel
theorem d_P_look_1 : decode prog_5_method_7_code 1 = .ok (.getfield 19, 3) := by decide +kernel
theorem d_P_look_4 : decode prog_5_method_7_code 4 = .ok (.iconst 0, 1) := by decide +kernel
theorem d_P_look_5 : decode prog_5_method_7_code 5 = .ok (.aload_n 0, 1) := by decide +kernel
theorem d_P_look_6 : decode prog_5_method_7_code 6 = .ok (.getfield 22, 3) := by decide +kernel
theorem d_P_look_9 : decode prog_5_method_7_code 9 = .ok (.iconst 0, 1) := by decide +kernel
theorem d_P_look_10 : decode prog_5_method_7_code 10 = .ok (.aload_n 0, 1) := by decide +kernel
theorem d_P_look_11 : decode prog_5_method_7_code 11 = .ok (.getfield 19, 3) := by decide +kernel
theorem d_P_look_14 : decode prog_5_method_7_code 14 = .ok (.arraylength, 1) := by decide +kernel
theorem d_P_look_15 : decode prog_5_method_7_code 15 = .ok (.invokestatic 114, 3) := by decide +kernel
theorem d_P_look_18 : decode prog_5_method_7_code 18 = .ok (.iconst 0, 1) := by decide +kernel
theorem d_P_look_19 : decode prog_5_method_7_code 19 = .ok (.istore_n 1, 1) := by decide +kernel
theorem d_P_look_20 : decode prog_5_method_7_code 20 = .ok (.iload_n 1, 1) := by decide +kernel
theorem d_P_look_21 : decode prog_5_method_7_code 21 = .ok (.aload_n 0, 1) := by decide +kernel
theorem d_P_look_22 : decode prog_5_method_7_code 22 = .ok (.getfield 59, 3) := by decide +kernel
theorem d_P_look_25 : decode prog_5_method_7_code 25 = .ok (.getfield 69, 3) := by decide +kernel
theorem d_P_look_28 : decode prog_5_method_7_code 28 = .ok (.if_icmp .ge (30), 3) := by decide +kernel
theorem d_P_look_31 : decode prog_5_method_7_code 31 = .ok (.aload_n 0, 1) := by decide +kernel
theorem d_P_look_32 : decode prog_5_method_7_code 32 = .ok (.getfield 25, 3) := by decide +kernel
theorem d_P_look_35 : decode prog_5_method_7_code 35 = .ok (.iload_n 1, 1) := by decide +kernel
theorem d_P_look_36 : decode prog_5_method_7_code 36 = .ok (.aload_n 0, 1) := by decide +kernel
theorem d_P_look_37 : decode prog_5_method_7_code 37 = .ok (.getfield 15, 3) := by decide +kernel
theorem d_P_look_40 : decode prog_5_method_7_code 40 = .ok (.aload_n 0, 1) := by decide +kernel
theorem d_P_look_41 : decode prog_5_method_7_code 41 = .ok (.getfield 59, 3) := by decide +kernel
theorem d_P_look_44 : decode prog_5_method_7_code 44 = .ok (.iload_n 1, 1) := by decide +kernel
theorem d_P_look_45 : decode prog_5_method_7_code 45 = .ok (.invokevirtual 120, 3) := by decide +kernel
theorem d_P_look_48 : decode prog_5_method_7_code 48 = .ok (.iconst 2, 1) := by decide +kernel
theorem d_P_look_49 : decode prog_5_method_7_code 49 = .ok (.imul, 1) := by decide +kernel
theorem d_P_look_50 : decode prog_5_method_7_code 50 = .ok (.iaload, 1) := by decide +kernel
theorem d_P_look_51 : decode prog_5_method_7_code 51 = .ok (.iastore, 1) := by decide +kernel
theorem d_P_look_52 : decode prog_5_method_7_code 52 = .ok (.iinc 1 (1), 3) := by decide +kernel
theorem d_P_look_55 : decode prog_5_method_7_code 55 = .ok (.goto (-35), 3) := by decide +kernel
theorem d_P_look_58 : decode prog_5_method_7_code 58 = .ok (.iconst 0, 1) := by decide +kernel
theorem d_P_look_59 : decode prog_5_method_7_code 59 = .ok (.istore_n 1, 1) := by decide +kernel
theorem d_P_look_60 : decode prog_5_method_7_code 60 = .ok (.iload_n 1, 1) := by decide +kernel
theorem d_P_look_61 : decode prog_5_method_7_code 61 = .ok (.aload_n 0, 1) := by decide +kernel
theorem d_P_look_62 : decode prog_5_method_7_code 62 = .ok (.getfield 59, 3) := by decide +kernel
theorem d_P_look_65 : decode prog_5_method_7_code 65 = .ok (.getfield 85, 3) := by decide +kernel
theorem d_P_look_68 : decode prog_5_method_7_code 68 = .ok (.if_icmp .ge (24), 3) := by decide +kernel
theorem d_P_look_71 : decode prog_5_method_7_code 71 = .ok (.aload_n 0, 1) := by decide +kernel
theorem d_P_look_72 : decode prog_5_method_7_code 72 = .ok (.getfield 25, 3) := by decide +kernel
theorem d_P_look_75 : decode prog_5_method_7_code 75 = .ok (.bipush (20), 2) := by decide +kernel
theorem d_P_look_77 : decode prog_5_method_7_code 77 = .ok (.iload_n 1, 1) := by decide +kernel
theorem d_P_look_78 : decode prog_5_method_7_code 78 = .ok (.iadd, 1) := by decide +kernel
theorem d_P_look_79 : decode prog_5_method_7_code 79 = .ok (.aload_n 0, 1) := by decide +kernel
theorem d_P_look_80 : decode prog_5_method_7_code 80 = .ok (.getfield 40, 3) := by decide +kernel
theorem d_P_look_83 : decode prog_5_method_7_code 83 = .ok (.iload_n 1, 1) := by decide +kernel
theorem d_P_look_84 : decode prog_5_method_7_code 84 = .ok (.iaload, 1) := by decide +kernel
theorem d_P_look_85 : decode prog_5_method_7_code 85 = .ok (.iastore, 1) := by decide +kernel
theorem d_P_look_86 : decode prog_5_method_7_code 86 = .ok (.iinc 1 (1), 3) := by decide +kernel
theorem d_P_look_89 : decode prog_5_method_7_code 89 = .ok (.goto (-29), 3) := by decide +kernel
theorem d_P_look_92 : decode prog_5_method_7_code 92 = .ok (.return_, 1) := by decide +kernel
theorem d_P_isReady_0 : decode prog_5_method_8_code 0 = .ok (.iconst 0, 1) := by decide +kernel
theorem d_P_isReady_1 : decode prog_5_method_8_code 1 = .ok (.istore_n 2, 1) := by decide +kernel
theorem d_P_isReady_2 : decode prog_5_method_8_code 2 = .ok (.iload_n 2, 1) := by decide +kernel
theorem d_P_isReady_3 : decode prog_5_method_8_code 3 = .ok (.aload_n 0, 1) := by decide +kernel
theorem d_P_isReady_4 : decode prog_5_method_8_code 4 = .ok (.getfield 59, 3) := by decide +kernel
theorem d_P_isReady_7 : decode prog_5_method_8_code 7 = .ok (.getfield 123, 3) := by decide +kernel
theorem d_P_isReady_10 : decode prog_5_method_8_code 10 = .ok (.iload_n 1, 1) := by decide +kernel
theorem d_P_isReady_11 : decode prog_5_method_8_code 11 = .ok (.iaload, 1) := by decide +kernel
theorem d_P_isReady_12 : decode prog_5_method_8_code 12 = .ok (.if_icmp .ge (29), 3) := by decide +kernel
theorem d_P_isReady_15 : decode prog_5_method_8_code 15 = .ok (.aload_n 0, 1) := by decide +kernel
theorem d_P_isReady_16 : decode prog_5_method_8_code 16 = .ok (.aload_n 0, 1) := by decide +kernel
theorem d_P_isReady_17 : decode prog_5_method_8_code 17 = .ok (.getfield 59, 3) := by decide +kernel
theorem d_P_isReady_20 : decode prog_5_method_8_code 20 = .ok (.getfield 126, 3) := by decide +kernel
theorem d_P_isReady_23 : decode prog_5_method_8_code 23 = .ok (.iload_n 1, 1) := by decide +kernel
theorem d_P_isReady_24 : decode prog_5_method_8_code 24 = .ok (.aaload, 1) := by decide +kernel
theorem d_P_isReady_25 : decode prog_5_method_8_code 25 = .ok (.iload_n 2, 1) := by decide +kernel
theorem d_P_isReady_26 : decode prog_5_method_8_code 26 = .ok (.iaload, 1) := by decide +kernel
theorem d_P_isReady_27 : decode prog_5_method_8_code 27 = .ok (.invokevirtual 129, 3) := by decide +kernel
theorem d_P_isReady_30 : decode prog_5_method_8_code 30 = .ok (.ifCond .ne (5), 3) := by decide +kernel
theorem d_P_isReady_33 : decode prog_5_method_8_code 33 = .ok (.iconst 0, 1) := by decide +kernel
theorem d_P_isReady_34 : decode prog_5_method_8_code 34 = .ok (.ireturn, 1) := by decide +kernel
theorem d_P_isReady_35 : decode prog_5_method_8_code 35 = .ok (.iinc 2 (1), 3) := by decide +kernel
theorem d_P_isReady_38 : decode prog_5_method_8_code 38 = .ok (.goto (-36), 3) := by decide +kernel
theorem d_P_isReady_41 : decode prog_5_method_8_code 41 = .ok (.iconst 1, 1) := by decide +kernel
theorem d_P_isReady_42 : decode prog_5_method_8_code 42 = .ok (.ireturn, 1) := by decide +kernel
theorem d_P_isThere_0 : decode prog_5_method_9_code 0 = .ok (.iload_n 1, 1) := by decide +kernel
theorem d_P_isThere_1 : decode prog_5_method_9_code 1 = .ok (.bipush (20), 2) := by decide +kernel
theorem d_P_isThere_3 : decode prog_5_method_9_code 3 = .ok (.if_icmp .ge (25), 3) := by decide +kernel
theorem d_P_isThere_6 : decode prog_5_method_9_code 6 = .ok (.aload_n 0, 1) := by decide +kernel
theorem d_P_isThere_7 : decode prog_5_method_9_code 7 = .ok (.getfield 22, 3) := by decide +kernel
theorem d_P_isThere_10 : decode prog_5_method_9_code 10 = .ok (.aload_n 0, 1) := by decide +kernel
theorem d_P_isThere_11 : decode prog_5_method_9_code 11 = .ok (.getfield 59, 3) := by decide +kernel
theorem d_P_isThere_14 : decode prog_5_method_9_code 14 = .ok (.iload_n 1, 1) := by decide +kernel
theorem d_P_isThere_15 : decode prog_5_method_9_code 15 = .ok (.invokevirtual 120, 3) := by decide +kernel
theorem d_P_isThere_18 : decode prog_5_method_9_code 18 = .ok (.iaload, 1) := by decide +kernel
theorem d_P_isThere_19 : decode prog_5_method_9_code 19 = .ok (.ifCond .le (7), 3) := by decide +kernel
theorem d_P_isThere_22 : decode prog_5_method_9_code 22 = .ok (.iconst 1, 1) := by decide +kernel
theorem d_P_isThere_23 : decode prog_5_method_9_code 23 = .ok (.goto (4), 3) := by decide +kernel
theorem d_P_isThere_26 : decode prog_5_method_9_code 26 = .ok (.iconst 0, 1) := by decide +kernel
theorem d_P_isThere_27 : decode prog_5_method_9_code 27 = .ok (.ireturn, 1) := by decide +kernel
theorem d_P_isThere_28 : decode prog_5_method_9_code 28 = .ok (.aload_n 0, 1) := by decide +kernel
theorem d_P_isThere_29 : decode prog_5_method_9_code 29 = .ok (.iload_n 1, 1) := by decide +kernel
theorem d_P_isThere_30 : decode prog_5_method_9_code 30 = .ok (.bipush (20), 2) := by decide +kernel
theorem d_P_isThere_32 : decode prog_5_method_9_code 32 = .ok (.isub, 1) := by decide +kernel
theorem d_P_isThere_33 : decode prog_5_method_9_code 33 = .ok (.invokevirtual 81, 3) := by decide +kernel
theorem d_P_isThere_36 : decode prog_5_method_9_code 36 = .ok (.ireturn, 1) := by decide +kernel
theorem d_P_whichGet_0 : decode prog_5_method_10_code 0 = .ok (.iconst 0, 1) := by decide +kernel
theorem d_P_whichGet_1 : decode prog_5_method_10_code 1 = .ok (.istore_n 3, 1) := by decide +kernel
theorem d_P_whichGet_2 : decode prog_5_method_10_code 2 = .ok (.iconst 0, 1) := by decide +kernel
theorem d_P_whichGet_3 : decode prog_5_method_10_code 3 = .ok (.istore 4, 2) := by decide +kernel
theorem d_P_whichGet_5 : decode prog_5_method_10_code 5 = .ok (.iload 4, 2) := by decide +kernel
theorem d_P_whichGet_7 : decode prog_5_method_10_code 7 = .ok (.aload_n 0, 1) := by decide +kernel
theorem d_P_whichGet_8 : decode prog_5_method_10_code 8 = .ok (.getfield 59, 3) := by decide +kernel
theorem d_P_whichGet_11 : decode prog_5_method_10_code 11 = .ok (.getfield 132, 3) := by decide +kernel
theorem d_P_whichGet_14 : decode prog_5_method_10_code 14 = .ok (.iload_n 1, 1) := by decide +kernel
theorem d_P_whichGet_15 : decode prog_5_method_10_code 15 = .ok (.iaload, 1) := by decide +kernel
theorem d_P_whichGet_16 : decode prog_5_method_10_code 16 = .ok (.if_icmp .ge (63), 3) := by decide +kernel
theorem d_P_whichGet_19 : decode prog_5_method_10_code 19 = .ok (.aload_n 0, 1) := by decide +kernel
theorem d_P_whichGet_20 : decode prog_5_method_10_code 20 = .ok (.getfield 31, 3) := by decide +kernel
theorem d_P_whichGet_23 : decode prog_5_method_10_code 23 = .ok (.iload_n 1, 1) := by decide +kernel
theorem d_P_whichGet_24 : decode prog_5_method_10_code 24 = .ok (.iaload, 1) := by decide +kernel
theorem d_P_whichGet_25 : decode prog_5_method_10_code 25 = .ok (.iload 4, 2) := by decide +kernel
theorem d_P_whichGet_27 : decode prog_5_method_10_code 27 = .ok (.ishr, 1) := by decide +kernel
theorem d_P_whichGet_28 : decode prog_5_method_10_code 28 = .ok (.iconst 1, 1) := by decide +kernel
theorem d_P_whichGet_29 : decode prog_5_method_10_code 29 = .ok (.iand, 1) := by decide +kernel
theorem d_P_whichGet_30 : decode prog_5_method_10_code 30 = .ok (.iconst 1, 1) := by decide +kernel
theorem d_P_whichGet_31 : decode prog_5_method_10_code 31 = .ok (.if_icmp .ne (7), 3) := by decide +kernel
theorem d_P_whichGet_34 : decode prog_5_method_10_code 34 = .ok (.iconst 1, 1) := by decide +kernel
theorem d_P_whichGet_35 : decode prog_5_method_10_code 35 = .ok (.goto (4), 3) := by decide +kernel
theorem d_P_whichGet_38 : decode prog_5_method_10_code 38 = .ok (.iconst 0, 1) := by decide +kernel
theorem d_P_whichGet_39 : decode prog_5_method_10_code 39 = .ok (.istore 5, 2) := by decide +kernel
theorem d_P_whichGet_41 : decode prog_5_method_10_code 41 = .ok (.iload 5, 2) := by decide +kernel
theorem d_P_whichGet_43 : decode prog_5_method_10_code 43 = .ok (.ifCond .ne (30), 3) := by decide +kernel
theorem d_P_whichGet_46 : decode prog_5_method_10_code 46 = .ok (.aload_n 0, 1) := by decide +kernel
theorem d_P_whichGet_47 : decode prog_5_method_10_code 47 = .ok (.aload_n 0, 1) := by decide +kernel
theorem d_P_whichGet_48 : decode prog_5_method_10_code 48 = .ok (.getfield 59, 3) := by decide +kernel
theorem d_P_whichGet_51 : decode prog_5_method_10_code 51 = .ok (.getfield 135, 3) := by decide +kernel
theorem d_P_whichGet_54 : decode prog_5_method_10_code 54 = .ok (.iload_n 1, 1) := by decide +kernel
theorem d_P_whichGet_55 : decode prog_5_method_10_code 55 = .ok (.aaload, 1) := by decide +kernel
theorem d_P_whichGet_56 : decode prog_5_method_10_code 56 = .ok (.iload 4, 2) := by decide +kernel
theorem d_P_whichGet_58 : decode prog_5_method_10_code 58 = .ok (.iaload, 1) := by decide +kernel
theorem d_P_whichGet_59 : decode prog_5_method_10_code 59 = .ok (.iload_n 2, 1) := by decide +kernel
theorem d_P_whichGet_60 : decode prog_5_method_10_code 60 = .ok (.invokevirtual 138, 3) := by decide +kernel
theorem d_P_whichGet_63 : decode prog_5_method_10_code 63 = .ok (.ifCond .eq (10), 3) := by decide +kernel
theorem d_P_whichGet_66 : decode prog_5_method_10_code 66 = .ok (.iload_n 3, 1) := by decide +kernel
theorem d_P_whichGet_67 : decode prog_5_method_10_code 67 = .ok (.iconst 1, 1) := by decide +kernel
theorem d_P_whichGet_68 : decode prog_5_method_10_code 68 = .ok (.iload 4, 2) := by decide +kernel
theorem d_P_whichGet_70 : decode prog_5_method_10_code 70 = .ok (.ishl, 1) := by decide +kernel
theorem d_P_whichGet_71 : decode prog_5_method_10_code 71 = .ok (.ior, 1) := by decide +kernel
theorem d_P_whichGet_72 : decode prog_5_method_10_code 72 = .ok (.istore_n 3, 1) := by decide +kernel
theorem d_P_whichGet_73 : decode prog_5_method_10_code 73 = .ok (.iinc 4 (1), 3) := by decide +kernel
theorem d_P_whichGet_76 : decode prog_5_method_10_code 76 = .ok (.goto (-71), 3) := by decide +kernel
theorem d_P_whichGet_79 : decode prog_5_method_10_code 79 = .ok (.iload_n 3, 1) := by decide +kernel
theorem d_P_whichGet_80 : decode prog_5_method_10_code 80 = .ok (.ireturn, 1) := by decide +kernel
theorem d_P_canGet_0 : decode prog_5_method_11_code 0 = .ok (.iload_n 1, 1) := by decide +kernel
theorem d_P_canGet_1 : decode prog_5_method_11_code 1 = .ok (.bipush (20), 2) := by decide +kernel
theorem d_P_canGet_3 : decode prog_5_method_11_code 3 = .ok (.if_icmp .ge (21), 3) := by decide +kernel
theorem d_P_canGet_6 : decode prog_5_method_11_code 6 = .ok (.aload_n 0, 1) := by decide +kernel
theorem d_P_canGet_7 : decode prog_5_method_11_code 7 = .ok (.getfield 22, 3) := by decide +kernel
theorem d_P_canGet_10 : decode prog_5_method_11_code 10 = .ok (.iload_n 1, 1) := by decide +kernel
theorem d_P_canGet_11 : decode prog_5_method_11_code 11 = .ok (.iconst 4, 1) := by decide +kernel
theorem d_P_canGet_12 : decode prog_5_method_11_code 12 = .ok (.imul, 1) := by decide +kernel
theorem d_P_canGet_13 : decode prog_5_method_11_code 13 = .ok (.iaload, 1) := by decide +kernel
theorem d_P_canGet_14 : decode prog_5_method_11_code 14 = .ok (.iconst 2, 1) := by decide +kernel
theorem d_P_canGet_15 : decode prog_5_method_11_code 15 = .ok (.if_icmp .ge (7), 3) := by decide +kernel
theorem d_P_canGet_18 : decode prog_5_method_11_code 18 = .ok (.iconst 1, 1) := by decide +kernel
theorem d_P_canGet_19 : decode prog_5_method_11_code 19 = .ok (.goto (4), 3) := by decide +kernel
theorem d_P_canGet_22 : decode prog_5_method_11_code 22 = .ok (.iconst 0, 1) := by decide +kernel
theorem d_P_canGet_23 : decode prog_5_method_11_code 23 = .ok (.ireturn, 1) := by decide +kernel
theorem d_P_canGet_24 : decode prog_5_method_11_code 24 = .ok (.iload_n 2, 1) := by decide +kernel
theorem d_P_canGet_25 : decode prog_5_method_11_code 25 = .ok (.iload_n 1, 1) := by decide +kernel
theorem d_P_canGet_26 : decode prog_5_method_11_code 26 = .ok (.bipush (20), 2) := by decide +kernel
theorem d_P_canGet_28 : decode prog_5_method_11_code 28 = .ok (.isub, 1) := by decide +kernel
theorem d_P_canGet_29 : decode prog_5_method_11_code 29 = .ok (.ishr, 1) := by decide +kernel
theorem d_P_canGet_30 : decode prog_5_method_11_code 30 = .ok (.iconst 1, 1) := by decide +kernel
theorem d_P_canGet_31 : decode prog_5_method_11_code 31 = .ok (.iand, 1) := by decide +kernel
theorem d_P_canGet_32 : decode prog_5_method_11_code 32 = .ok (.ifCond .ne (7), 3) := by decide +kernel
theorem d_P_canGet_35 : decode prog_5_method_11_code 35 = .ok (.iconst 1, 1) := by decide +kernel
theorem d_P_canGet_36 : decode prog_5_method_11_code 36 = .ok (.goto (4), 3) := by decide +kernel
theorem d_P_canGet_39 : decode prog_5_method_11_code 39 = .ok (.iconst 0, 1) := by decide +kernel
theorem d_P_canGet_40 : decode prog_5_method_11_code 40 = .ok (.ireturn, 1) := by decide +kernel
theorem d_P_moveOn_0 : decode prog_5_method_12_code 0 = .ok (.aload_n 0, 1) := by decide +kernel
theorem d_P_moveOn_1 : decode prog_5_method_12_code 1 = .ok (.getfield 59, 3) := by decide +kernel
theorem d_P_moveOn_4 : decode prog_5_method_12_code 4 = .ok (.iload_n 1, 1) := by decide +kernel
theorem d_P_moveOn_5 : decode prog_5_method_12_code 5 = .ok (.invokevirtual 120, 3) := by decide +kernel
theorem d_P_moveOn_8 : decode prog_5_method_12_code 8 = .ok (.istore_n 2, 1) := by decide +kernel
theorem d_P_moveOn_9 : decode prog_5_method_12_code 9 = .ok (.iload_n 1, 1) := by decide +kernel
theorem d_P_moveOn_10 : decode prog_5_method_12_code 10 = .ok (.iconst 4, 1) := by decide +kernel
theorem d_P_moveOn_11 : decode prog_5_method_12_code 11 = .ok (.imul, 1) := by decide +kernel
theorem d_P_moveOn_12 : decode prog_5_method_12_code 12 = .ok (.istore_n 3, 1) := by decide +kernel
theorem d_P_moveOn_13 : decode prog_5_method_12_code 13 = .ok (.iload_n 3, 1) := by decide +kernel
theorem d_P_moveOn_14 : decode prog_5_method_12_code 14 = .ok (.iload_n 2, 1) := by decide +kernel
theorem d_P_moveOn_15 : decode prog_5_method_12_code 15 = .ok (.if_icmp .ge (50), 3) := by decide +kernel
theorem d_P_moveOn_18 : decode prog_5_method_12_code 18 = .ok (.aload_n 0, 1) := by decide +kernel
theorem d_P_moveOn_19 : decode prog_5_method_12_code 19 = .ok (.getfield 22, 3) := by decide +kernel
theorem d_P_moveOn_22 : decode prog_5_method_12_code 22 = .ok (.iload_n 3, 1) := by decide +kernel
theorem d_P_moveOn_23 : decode prog_5_method_12_code 23 = .ok (.iaload, 1) := by decide +kernel
theorem d_P_moveOn_24 : decode prog_5_method_12_code 24 = .ok (.ifCond .le (35), 3) := by decide +kernel
theorem d_P_moveOn_27 : decode prog_5_method_12_code 27 = .ok (.aload_n 0, 1) := by decide +kernel
theorem d_P_moveOn_28 : decode prog_5_method_12_code 28 = .ok (.getfield 22, 3) := by decide +kernel
theorem d_P_moveOn_31 : decode prog_5_method_12_code 31 = .ok (.iload_n 3, 1) := by decide +kernel
theorem d_P_moveOn_32 : decode prog_5_method_12_code 32 = .ok (.iconst 1, 1) := by decide +kernel
theorem d_P_moveOn_33 : decode prog_5_method_12_code 33 = .ok (.iadd, 1) := by decide +kernel
theorem d_P_moveOn_34 : decode prog_5_method_12_code 34 = .ok (.iaload, 1) := by decide +kernel
theorem d_P_moveOn_35 : decode prog_5_method_12_code 35 = .ok (.iconst 2, 1) := by decide +kernel
theorem d_P_moveOn_36 : decode prog_5_method_12_code 36 = .ok (.if_icmp .ge (23), 3) := by decide +kernel
theorem d_P_moveOn_39 : decode prog_5_method_12_code 39 = .ok (.aload_n 0, 1) := by decide +kernel
theorem d_P_moveOn_40 : decode prog_5_method_12_code 40 = .ok (.iload_n 3, 1) := by decide +kernel
theorem d_P_moveOn_41 : decode prog_5_method_12_code 41 = .ok (.iconst 1, 1) := by decide +kernel
theorem d_P_moveOn_42 : decode prog_5_method_12_code 42 = .ok (.iadd, 1) := by decide +kernel
theorem d_P_moveOn_43 : decode prog_5_method_12_code 43 = .ok (.aload_n 0, 1) := by decide +kernel
theorem d_P_moveOn_44 : decode prog_5_method_12_code 44 = .ok (.getfield 15, 3) := by decide +kernel
theorem d_P_moveOn_47 : decode prog_5_method_12_code 47 = .ok (.iload_n 3, 1) := by decide +kernel
theorem d_P_moveOn_48 : decode prog_5_method_12_code 48 = .ok (.iconst 2, 1) := by decide +kernel
theorem d_P_moveOn_49 : decode prog_5_method_12_code 49 = .ok (.imul, 1) := by decide +kernel
theorem d_P_moveOn_50 : decode prog_5_method_12_code 50 = .ok (.iaload, 1) := by decide +kernel
theorem d_P_moveOn_51 : decode prog_5_method_12_code 51 = .ok (.invokevirtual 77, 3) := by decide +kernel
theorem d_P_moveOn_54 : decode prog_5_method_12_code 54 = .ok (.aload_n 0, 1) := by decide +kernel
theorem d_P_moveOn_55 : decode prog_5_method_12_code 55 = .ok (.iload_n 3, 1) := by decide +kernel
theorem d_P_moveOn_56 : decode prog_5_method_12_code 56 = .ok (.invokevirtual 142, 3) := by decide +kernel
theorem d_P_moveOn_59 : decode prog_5_method_12_code 59 = .ok (.iinc 3 (1), 3) := by decide +kernel
theorem d_P_moveOn_62 : decode prog_5_method_12_code 62 = .ok (.goto (-49), 3) := by decide +kernel
theorem d_P_moveOn_65 : decode prog_5_method_12_code 65 = .ok (.return_, 1) := by decide +kernel
theorem d_P_act_0 : decode prog_5_method_13_code 0 = .ok (.iconst 0, 1) := by decide +kernel
theorem d_P_act_1 : decode prog_5_method_13_code 1 = .ok (.istore_n 2, 1) := by decide +kernel
theorem d_P_act_2 : decode prog_5_method_13_code 2 = .ok (.aload_n 0, 1) := by decide +kernel
theorem d_P_act_3 : decode prog_5_method_13_code 3 = .ok (.getfield 59, 3) := by decide +kernel
theorem d_P_act_6 : decode prog_5_method_13_code 6 = .ok (.iload_n 1, 1) := by decide +kernel
theorem d_P_act_7 : decode prog_5_method_13_code 7 = .ok (.aload_n 0, 1) := by decide +kernel
theorem d_P_act_8 : decode prog_5_method_13_code 8 = .ok (.getfield 25, 3) := by decide +kernel
theorem d_P_act_11 : decode prog_5_method_13_code 11 = .ok (.invokevirtual 145, 3) := by decide +kernel
theorem d_P_act_14 : decode prog_5_method_13_code 14 = .ok (.istore_n 3, 1) := by decide +kernel
theorem d_P_act_15 : decode prog_5_method_13_code 15 = .ok (.iconst 0, 1) := by decide +kernel
theorem d_P_act_16 : decode prog_5_method_13_code 16 = .ok (.istore 4, 2) := by decide +kernel
theorem d_P_act_18 : decode prog_5_method_13_code 18 = .ok (.iload 4, 2) := by decide +kernel
theorem d_P_act_20 : decode prog_5_method_13_code 20 = .ok (.aload_n 0, 1) := by decide +kernel
theorem d_P_act_21 : decode prog_5_method_13_code 21 = .ok (.getfield 59, 3) := by decide +kernel
theorem d_P_act_24 : decode prog_5_method_13_code 24 = .ok (.getfield 132, 3) := by decide +kernel
theorem d_P_act_27 : decode prog_5_method_13_code 27 = .ok (.iload_n 1, 1) := by decide +kernel
theorem d_P_act_28 : decode prog_5_method_13_code 28 = .ok (.iaload, 1) := by decide +kernel
theorem d_P_act_29 : decode prog_5_method_13_code 29 = .ok (.if_icmp .ge (44), 3) := by decide +kernel
theorem d_P_act_32 : decode prog_5_method_13_code 32 = .ok (.aload_n 0, 1) := by decide +kernel
theorem d_P_act_33 : decode prog_5_method_13_code 33 = .ok (.getfield 34, 3) := by decide +kernel
theorem d_P_act_36 : decode prog_5_method_13_code 36 = .ok (.iload_n 1, 1) := by decide +kernel
theorem d_P_act_37 : decode prog_5_method_13_code 37 = .ok (.iaload, 1) := by decide +kernel
theorem d_P_act_38 : decode prog_5_method_13_code 38 = .ok (.iload 4, 2) := by decide +kernel
theorem d_P_act_40 : decode prog_5_method_13_code 40 = .ok (.ishr, 1) := by decide +kernel
theorem d_P_act_41 : decode prog_5_method_13_code 41 = .ok (.iconst 1, 1) := by decide +kernel
theorem d_P_act_42 : decode prog_5_method_13_code 42 = .ok (.iand, 1) := by decide +kernel
theorem d_P_act_43 : decode prog_5_method_13_code 43 = .ok (.iconst 1, 1) := by decide +kernel
theorem d_P_act_44 : decode prog_5_method_13_code 44 = .ok (.if_icmp .ne (23), 3) := by decide +kernel
theorem d_P_act_47 : decode prog_5_method_13_code 47 = .ok (.iload_n 2, 1) := by decide +kernel
theorem d_P_act_48 : decode prog_5_method_13_code 48 = .ok (.aload_n 0, 1) := by decide +kernel
theorem d_P_act_49 : decode prog_5_method_13_code 49 = .ok (.aload_n 0, 1) := by decide +kernel
theorem d_P_act_50 : decode prog_5_method_13_code 50 = .ok (.getfield 59, 3) := by decide +kernel
theorem d_P_act_53 : decode prog_5_method_13_code 53 = .ok (.getfield 135, 3) := by decide +kernel
theorem d_P_act_56 : decode prog_5_method_13_code 56 = .ok (.iload_n 1, 1) := by decide +kernel
theorem d_P_act_57 : decode prog_5_method_13_code 57 = .ok (.aaload, 1) := by decide +kernel
theorem d_P_act_58 : decode prog_5_method_13_code 58 = .ok (.iload 4, 2) := by decide +kernel
theorem d_P_act_60 : decode prog_5_method_13_code 60 = .ok (.iaload, 1) := by decide +kernel
theorem d_P_act_61 : decode prog_5_method_13_code 61 = .ok (.iload_n 3, 1) := by decide +kernel
theorem d_P_act_62 : decode prog_5_method_13_code 62 = .ok (.invokevirtual 149, 3) := by decide +kernel
theorem d_P_act_65 : decode prog_5_method_13_code 65 = .ok (.ior, 1) := by decide +kernel
theorem d_P_act_66 : decode prog_5_method_13_code 66 = .ok (.istore_n 2, 1) := by decide +kernel
theorem d_P_act_67 : decode prog_5_method_13_code 67 = .ok (.iinc 4 (1), 3) := by decide +kernel
theorem d_P_act_70 : decode prog_5_method_13_code 70 = .ok (.goto (-52), 3) := by decide +kernel
theorem d_P_act_73 : decode prog_5_method_13_code 73 = .ok (.aload_n 0, 1) := by decide +kernel
theorem d_P_act_74 : decode prog_5_method_13_code 74 = .ok (.getfield 31, 3) := by decide +kernel
theorem d_P_act_77 : decode prog_5_method_13_code 77 = .ok (.iload_n 1, 1) := by decide +kernel
theorem d_P_act_78 : decode prog_5_method_13_code 78 = .ok (.dup2, 1) := by decide +kernel
theorem d_P_act_79 : decode prog_5_method_13_code 79 = .ok (.iaload, 1) := by decide +kernel
theorem d_P_act_80 : decode prog_5_method_13_code 80 = .ok (.aload_n 0, 1) := by decide +kernel
theorem d_P_act_81 : decode prog_5_method_13_code 81 = .ok (.getfield 34, 3) := by decide +kernel
theorem d_P_act_84 : decode prog_5_method_13_code 84 = .ok (.iload_n 1, 1) := by decide +kernel
theorem d_P_act_85 : decode prog_5_method_13_code 85 = .ok (.iaload, 1) := by decide +kernel
theorem d_P_act_86 : decode prog_5_method_13_code 86 = .ok (.ior, 1) := by decide +kernel
theorem d_P_act_87 : decode prog_5_method_13_code 87 = .ok (.iastore, 1) := by decide +kernel
theorem d_P_act_88 : decode prog_5_method_13_code 88 = .ok (.aload_n 0, 1) := by decide +kernel
theorem d_P_act_89 : decode prog_5_method_13_code 89 = .ok (.getfield 31, 3) := by decide +kernel
theorem d_P_act_92 : decode prog_5_method_13_code 92 = .ok (.iload_n 1, 1) := by decide +kernel
theorem d_P_act_93 : decode prog_5_method_13_code 93 = .ok (.iaload, 1) := by decide +kernel
theorem d_P_act_94 : decode prog_5_method_13_code 94 = .ok (.iconst 1, 1) := by decide +kernel
theorem d_P_act_95 : decode prog_5_method_13_code 95 = .ok (.aload_n 0, 1) := by decide +kernel
theorem d_P_act_96 : decode prog_5_method_13_code 96 = .ok (.getfield 59, 3) := by decide +kernel
theorem d_P_act_99 : decode prog_5_method_13_code 99 = .ok (.getfield 132, 3) := by decide +kernel
theorem d_P_act_102 : decode prog_5_method_13_code 102 = .ok (.iload_n 1, 1) := by decide +kernel
theorem d_P_act_103 : decode prog_5_method_13_code 103 = .ok (.iaload, 1) := by decide +kernel
theorem d_P_act_104 : decode prog_5_method_13_code 104 = .ok (.ishl, 1) := by decide +kernel
theorem d_P_act_105 : decode prog_5_method_13_code 105 = .ok (.iconst 1, 1) := by decide +kernel
theorem d_P_act_106 : decode prog_5_method_13_code 106 = .ok (.isub, 1) := by decide +kernel
theorem d_P_act_107 : decode prog_5_method_13_code 107 = .ok (.if_icmp .ne (11), 3) := by decide +kernel
theorem d_P_act_110 : decode prog_5_method_13_code 110 = .ok (.iload_n 2, 1) := by decide +kernel
theorem d_P_act_111 : decode prog_5_method_13_code 111 = .ok (.aload_n 0, 1) := by decide +kernel
theorem d_P_act_112 : decode prog_5_method_13_code 112 = .ok (.iload_n 1, 1) := by decide +kernel
theorem d_P_act_113 : decode prog_5_method_13_code 113 = .ok (.invokevirtual 152, 3) := by decide +kernel
theorem d_P_act_116 : decode prog_5_method_13_code 116 = .ok (.ior, 1) := by decide +kernel
theorem d_P_act_117 : decode prog_5_method_13_code 117 = .ok (.istore_n 2, 1) := by decide +kernel
theorem d_P_act_118 : decode prog_5_method_13_code 118 = .ok (.iload_n 2, 1) := by decide +kernel
theorem d_P_act_119 : decode prog_5_method_13_code 119 = .ok (.ireturn, 1) := by decide +kernel
theorem d_P_give_0 : decode prog_5_method_14_code 0 = .ok (.iload_n 1, 1) := by decide +kernel
theorem d_P_give_1 : decode prog_5_method_14_code 1 = .ok (.bipush (20), 2) := by decide +kernel
theorem d_P_give_3 : decode prog_5_method_14_code 3 = .ok (.if_icmp .ge (13), 3) := by decide +kernel
theorem d_P_give_6 : decode prog_5_method_14_code 6 = .ok (.aload_n 0, 1) := by decide +kernel
theorem d_P_give_7 : decode prog_5_method_14_code 7 = .ok (.iload_n 1, 1) := by decide +kernel
theorem d_P_give_8 : decode prog_5_method_14_code 8 = .ok (.iconst 4, 1) := by decide +kernel
theorem d_P_give_9 : decode prog_5_method_14_code 9 = .ok (.imul, 1) := by decide +kernel
theorem d_P_give_10 : decode prog_5_method_14_code 10 = .ok (.iload_n 2, 1) := by decide +kernel
theorem d_P_give_11 : decode prog_5_method_14_code 11 = .ok (.invokevirtual 77, 3) := by decide +kernel
theorem d_P_give_14 : decode prog_5_method_14_code 14 = .ok (.iconst 0, 1) := by decide +kernel
theorem d_P_give_15 : decode prog_5_method_14_code 15 = .ok (.ireturn, 1) := by decide +kernel
theorem d_P_give_16 : decode prog_5_method_14_code 16 = .ok (.iload_n 1, 1) := by decide +kernel
theorem d_P_give_17 : decode prog_5_method_14_code 17 = .ok (.bipush (20), 2) := by decide +kernel
theorem d_P_give_19 : decode prog_5_method_14_code 19 = .ok (.isub, 1) := by decide +kernel
theorem d_P_give_20 : decode prog_5_method_14_code 20 = .ok (.istore_n 3, 1) := by decide +kernel
theorem d_P_give_21 : decode prog_5_method_14_code 21 = .ok (.aload_n 0, 1) := by decide +kernel
theorem d_P_give_22 : decode prog_5_method_14_code 22 = .ok (.getfield 56, 3) := by decide +kernel
theorem d_P_give_25 : decode prog_5_method_14_code 25 = .ok (.iload_n 3, 1) := by decide +kernel
theorem d_P_give_26 : decode prog_5_method_14_code 26 = .ok (.aaload, 1) := by decide +kernel
theorem d_P_give_27 : decode prog_5_method_14_code 27 = .ok (.aload_n 0, 1) := by decide +kernel
theorem d_P_give_28 : decode prog_5_method_14_code 28 = .ok (.getfield 51, 3) := by decide +kernel
theorem d_P_give_31 : decode prog_5_method_14_code 31 = .ok (.iload_n 3, 1) := by decide +kernel
theorem d_P_give_32 : decode prog_5_method_14_code 32 = .ok (.iaload, 1) := by decide +kernel
theorem d_P_give_33 : decode prog_5_method_14_code 33 = .ok (.aload_n 0, 1) := by decide +kernel
theorem d_P_give_34 : decode prog_5_method_14_code 34 = .ok (.getfield 9, 3) := by decide +kernel
theorem d_P_give_37 : decode prog_5_method_14_code 37 = .ok (.i2l, 1) := by decide +kernel
theorem d_P_give_38 : decode prog_5_method_14_code 38 = .ok (.bipush (32), 2) := by decide +kernel
theorem d_P_give_40 : decode prog_5_method_14_code 40 = .ok (.lshl, 1) := by decide +kernel
theorem d_P_give_41 : decode prog_5_method_14_code 41 = .ok (.iload_n 2, 1) := by decide +kernel
theorem d_P_give_42 : decode prog_5_method_14_code 42 = .ok (.i2l, 1) := by decide +kernel
theorem d_P_give_43 : decode prog_5_method_14_code 43 = .ok (.ldc2_w 155, 3) := by decide +kernel
theorem d_P_give_46 : decode prog_5_method_14_code 46 = .ok (.land, 1) := by decide +kernel
theorem d_P_give_47 : decode prog_5_method_14_code 47 = .ok (.lor, 1) := by decide +kernel
theorem d_P_give_48 : decode prog_5_method_14_code 48 = .ok (.lastore, 1) := by decide +kernel
theorem d_P_give_49 : decode prog_5_method_14_code 49 = .ok (.aload_n 0, 1) := by decide +kernel
theorem d_P_give_50 : decode prog_5_method_14_code 50 = .ok (.getfield 51, 3) := by decide +kernel
theorem d_P_give_53 : decode prog_5_method_14_code 53 = .ok (.iload_n 3, 1) := by decide +kernel
theorem d_P_give_54 : decode prog_5_method_14_code 54 = .ok (.dup2, 1) := by decide +kernel
theorem d_P_give_55 : decode prog_5_method_14_code 55 = .ok (.iaload, 1) := by decide +kernel
theorem d_P_give_56 : decode prog_5_method_14_code 56 = .ok (.iconst 1, 1) := by decide +kernel
theorem d_P_give_57 : decode prog_5_method_14_code 57 = .ok (.iadd, 1) := by decide +kernel
theorem d_P_give_58 : decode prog_5_method_14_code 58 = .ok (.iastore, 1) := by decide +kernel
theorem d_P_give_59 : decode prog_5_method_14_code 59 = .ok (.iconst 1, 1) := by decide +kernel
theorem d_P_give_60 : decode prog_5_method_14_code 60 = .ok (.iload_n 3, 1) := by decide +kernel
theorem d_P_give_61 : decode prog_5_method_14_code 61 = .ok (.ishl, 1) := by decide +kernel
theorem d_P_give_62 : decode prog_5_method_14_code 62 = .ok (.ireturn, 1) := by decide +kernel
theorem d_P_endTurn_0 : decode prog_5_method_15_code 0 = .ok (.iconst 0, 1) := by decide +kernel
theorem d_P_endTurn_1 : decode prog_5_method_15_code 1 = .ok (.istore_n 2, 1) := by decide +kernel
theorem d_P_endTurn_2 : decode prog_5_method_15_code 2 = .ok (.iconst 0, 1) := by decide +kernel
theorem d_P_endTurn_3 : decode prog_5_method_15_code 3 = .ok (.istore_n 3, 1) := by decide +kernel
theorem d_P_endTurn_4 : decode prog_5_method_15_code 4 = .ok (.iload_n 3, 1) := by decide +kernel
theorem d_P_endTurn_5 : decode prog_5_method_15_code 5 = .ok (.aload_n 0, 1) := by decide +kernel
theorem d_P_endTurn_6 : decode prog_5_method_15_code 6 = .ok (.getfield 59, 3) := by decide +kernel
theorem d_P_endTurn_9 : decode prog_5_method_15_code 9 = .ok (.getfield 123, 3) := by decide +kernel
theorem d_P_endTurn_12 : decode prog_5_method_15_code 12 = .ok (.iload_n 1, 1) := by decide +kernel
theorem d_P_endTurn_13 : decode prog_5_method_15_code 13 = .ok (.iaload, 1) := by decide +kernel
theorem d_P_endTurn_14 : decode prog_5_method_15_code 14 = .ok (.if_icmp .ge (27), 3) := by decide +kernel
theorem d_P_endTurn_17 : decode prog_5_method_15_code 17 = .ok (.iload_n 2, 1) := by decide +kernel
theorem d_P_endTurn_18 : decode prog_5_method_15_code 18 = .ok (.aload_n 0, 1) := by decide +kernel
theorem d_P_endTurn_19 : decode prog_5_method_15_code 19 = .ok (.aload_n 0, 1) := by decide +kernel
theorem d_P_endTurn_20 : decode prog_5_method_15_code 20 = .ok (.getfield 59, 3) := by decide +kernel
theorem d_P_endTurn_23 : decode prog_5_method_15_code 23 = .ok (.getfield 126, 3) := by decide +kernel
theorem d_P_endTurn_26 : decode prog_5_method_15_code 26 = .ok (.iload_n 1, 1) := by decide +kernel
theorem d_P_endTurn_27 : decode prog_5_method_15_code 27 = .ok (.aaload, 1) := by decide +kernel
theorem d_P_endTurn_28 : decode prog_5_method_15_code 28 = .ok (.iload_n 3, 1) := by decide +kernel
theorem d_P_endTurn_29 : decode prog_5_method_15_code 29 = .ok (.iaload, 1) := by decide +kernel
theorem d_P_endTurn_30 : decode prog_5_method_15_code 30 = .ok (.invokevirtual 157, 3) := by decide +kernel
theorem d_P_endTurn_33 : decode prog_5_method_15_code 33 = .ok (.ior, 1) := by decide +kernel
theorem d_P_endTurn_34 : decode prog_5_method_15_code 34 = .ok (.istore_n 2, 1) := by decide +kernel
theorem d_P_endTurn_35 : decode prog_5_method_15_code 35 = .ok (.iinc 3 (1), 3) := by decide +kernel
theorem d_P_endTurn_38 : decode prog_5_method_15_code 38 = .ok (.goto (-34), 3) := by decide +kernel
theorem d_P_endTurn_41 : decode prog_5_method_15_code 41 = .ok (.aload_n 0, 1) := by decide +kernel
theorem d_P_endTurn_42 : decode prog_5_method_15_code 42 = .ok (.getfield 31, 3) := by decide +kernel
theorem d_P_endTurn_45 : decode prog_5_method_15_code 45 = .ok (.iload_n 1, 1) := by decide +kernel
theorem d_P_endTurn_46 : decode prog_5_method_15_code 46 = .ok (.iconst 0, 1) := by decide +kernel
theorem d_P_endTurn_47 : decode prog_5_method_15_code 47 = .ok (.iastore, 1) := by decide +kernel
theorem d_P_endTurn_48 : decode prog_5_method_15_code 48 = .ok (.aload_n 0, 1) := by decide +kernel
theorem d_P_endTurn_49 : decode prog_5_method_15_code 49 = .ok (.getfield 28, 3) := by decide +kernel
theorem d_P_endTurn_52 : decode prog_5_method_15_code 52 = .ok (.iload_n 1, 1) := by decide +kernel
theorem d_P_endTurn_53 : decode prog_5_method_15_code 53 = .ok (.dup2, 1) := by decide +kernel
theorem d_P_endTurn_54 : decode prog_5_method_15_code 54 = .ok (.iaload, 1) := by decide +kernel
theorem d_P_endTurn_55 : decode prog_5_method_15_code 55 = .ok (.iconst 1, 1) := by decide +kernel
theorem d_P_endTurn_56 : decode prog_5_method_15_code 56 = .ok (.iadd, 1) := by decide +kernel
theorem d_P_endTurn_57 : decode prog_5_method_15_code 57 = .ok (.iastore, 1) := by decide +kernel
theorem d_P_endTurn_58 : decode prog_5_method_15_code 58 = .ok (.iload_n 2, 1) := by decide +kernel
theorem d_P_endTurn_59 : decode prog_5_method_15_code 59 = .ok (.ireturn, 1) := by decide +kernel
theorem d_P_take_0 : decode prog_5_method_16_code 0 = .ok (.iload_n 1, 1) := by decide +kernel
theorem d_P_take_1 : decode prog_5_method_16_code 1 = .ok (.bipush (20), 2) := by decide +kernel
theorem d_P_take_3 : decode prog_5_method_16_code 3 = .ok (.if_icmp .ge (17), 3) := by decide +kernel
theorem d_P_take_6 : decode prog_5_method_16_code 6 = .ok (.aload_n 0, 1) := by decide +kernel
theorem d_P_take_7 : decode prog_5_method_16_code 7 = .ok (.aload_n 0, 1) := by decide +kernel
theorem d_P_take_8 : decode prog_5_method_16_code 8 = .ok (.getfield 59, 3) := by decide +kernel
theorem d_P_take_11 : decode prog_5_method_16_code 11 = .ok (.iload_n 1, 1) := by decide +kernel
theorem d_P_take_12 : decode prog_5_method_16_code 12 = .ok (.invokevirtual 120, 3) := by decide +kernel
theorem d_P_take_15 : decode prog_5_method_16_code 15 = .ok (.invokevirtual 142, 3) := by decide +kernel
theorem d_P_take_18 : decode prog_5_method_16_code 18 = .ok (.iconst 0, 1) := by decide +kernel
theorem d_P_take_19 : decode prog_5_method_16_code 19 = .ok (.ireturn, 1) := by decide +kernel
theorem d_P_take_20 : decode prog_5_method_16_code 20 = .ok (.iload_n 1, 1) := by decide +kernel
theorem d_P_take_21 : decode prog_5_method_16_code 21 = .ok (.bipush (20), 2) := by decide +kernel
theorem d_P_take_23 : decode prog_5_method_16_code 23 = .ok (.isub, 1) := by decide +kernel
theorem d_P_take_24 : decode prog_5_method_16_code 24 = .ok (.istore_n 2, 1) := by decide +kernel
theorem d_P_take_25 : decode prog_5_method_16_code 25 = .ok (.aload_n 0, 1) := by decide +kernel
theorem d_P_take_26 : decode prog_5_method_16_code 26 = .ok (.dup, 1) := by decide +kernel
theorem d_P_take_27 : decode prog_5_method_16_code 27 = .ok (.getfield 37, 3) := by decide +kernel
theorem d_P_take_30 : decode prog_5_method_16_code 30 = .ok (.iconst 1, 1) := by decide +kernel
theorem d_P_take_31 : decode prog_5_method_16_code 31 = .ok (.iload_n 2, 1) := by decide +kernel
theorem d_P_take_32 : decode prog_5_method_16_code 32 = .ok (.ishl, 1) := by decide +kernel
theorem d_P_take_33 : decode prog_5_method_16_code 33 = .ok (.iconst (-1), 1) := by decide +kernel
theorem d_P_take_34 : decode prog_5_method_16_code 34 = .ok (.ixor, 1) := by decide +kernel
theorem d_P_take_35 : decode prog_5_method_16_code 35 = .ok (.iand, 1) := by decide +kernel
theorem d_P_take_36 : decode prog_5_method_16_code 36 = .ok (.putfield 37, 3) := by decide +kernel
theorem d_P_take_39 : decode prog_5_method_16_code 39 = .ok (.aload_n 0, 1) := by decide +kernel
theorem d_P_take_40 : decode prog_5_method_16_code 40 = .ok (.getfield 48, 3) := by decide +kernel
theorem d_P_take_43 : decode prog_5_method_16_code 43 = .ok (.iload_n 2, 1) := by decide +kernel
theorem d_P_take_44 : decode prog_5_method_16_code 44 = .ok (.aaload, 1) := by decide +kernel
theorem d_P_take_45 : decode prog_5_method_16_code 45 = .ok (.aload_n 0, 1) := by decide +kernel
theorem d_P_take_46 : decode prog_5_method_16_code 46 = .ok (.getfield 43, 3) := by decide +kernel
theorem d_P_take_49 : decode prog_5_method_16_code 49 = .ok (.iload_n 2, 1) := by decide +kernel
theorem d_P_take_50 : decode prog_5_method_16_code 50 = .ok (.iaload, 1) := by decide +kernel
theorem d_P_take_51 : decode prog_5_method_16_code 51 = .ok (.aload_n 0, 1) := by decide +kernel
theorem d_P_take_52 : decode prog_5_method_16_code 52 = .ok (.getfield 40, 3) := by decide +kernel
theorem d_P_take_55 : decode prog_5_method_16_code 55 = .ok (.iload_n 2, 1) := by decide +kernel
theorem d_P_take_56 : decode prog_5_method_16_code 56 = .ok (.iaload, 1) := by decide +kernel
theorem d_P_take_57 : decode prog_5_method_16_code 57 = .ok (.iastore, 1) := by decide +kernel
theorem d_P_take_58 : decode prog_5_method_16_code 58 = .ok (.aload_n 0, 1) := by decide +kernel
theorem d_P_take_59 : decode prog_5_method_16_code 59 = .ok (.getfield 43, 3) := by decide +kernel
theorem d_P_take_62 : decode prog_5_method_16_code 62 = .ok (.iload_n 2, 1) := by decide +kernel
theorem d_P_take_63 : decode prog_5_method_16_code 63 = .ok (.dup2, 1) := by decide +kernel
theorem d_P_take_64 : decode prog_5_method_16_code 64 = .ok (.iaload, 1) := by decide +kernel
theorem d_P_take_65 : decode prog_5_method_16_code 65 = .ok (.iconst 1, 1) := by decide +kernel
theorem d_P_take_66 : decode prog_5_method_16_code 66 = .ok (.iadd, 1) := by decide +kernel
theorem d_P_take_67 : decode prog_5_method_16_code 67 = .ok (.iastore, 1) := by decide +kernel
theorem d_P_take_68 : decode prog_5_method_16_code 68 = .ok (.bipush (16), 2) := by decide +kernel
theorem d_P_take_70 : decode prog_5_method_16_code 70 = .ok (.iload_n 2, 1) := by decide +kernel
theorem d_P_take_71 : decode prog_5_method_16_code 71 = .ok (.ishl, 1) := by decide +kernel
theorem d_P_take_72 : decode prog_5_method_16_code 72 = .ok (.ireturn, 1) := by decide +kernel
theorem d_P_put_0 : decode prog_5_method_17_code 0 = .ok (.aload_n 0, 1) := by decide +kernel
theorem d_P_put_1 : decode prog_5_method_17_code 1 = .ok (.getfield 15, 3) := by decide +kernel
theorem d_P_put_4 : decode prog_5_method_17_code 4 = .ok (.iload_n 1, 1) := by decide +kernel
theorem d_P_put_5 : decode prog_5_method_17_code 5 = .ok (.iconst 2, 1) := by decide +kernel
theorem d_P_put_6 : decode prog_5_method_17_code 6 = .ok (.imul, 1) := by decide +kernel
theorem d_P_put_7 : decode prog_5_method_17_code 7 = .ok (.aload_n 0, 1) := by decide +kernel
theorem d_P_put_8 : decode prog_5_method_17_code 8 = .ok (.getfield 19, 3) := by decide +kernel
theorem d_P_put_11 : decode prog_5_method_17_code 11 = .ok (.iload_n 1, 1) := by decide +kernel
theorem d_P_put_12 : decode prog_5_method_17_code 12 = .ok (.iaload, 1) := by decide +kernel
theorem d_P_put_13 : decode prog_5_method_17_code 13 = .ok (.iadd, 1) := by decide +kernel
theorem d_P_put_14 : decode prog_5_method_17_code 14 = .ok (.iload_n 2, 1) := by decide +kernel
theorem d_P_put_15 : decode prog_5_method_17_code 15 = .ok (.iastore, 1) := by decide +kernel
theorem d_P_put_16 : decode prog_5_method_17_code 16 = .ok (.aload_n 0, 1) := by decide +kernel
theorem d_P_put_17 : decode prog_5_method_17_code 17 = .ok (.getfield 19, 3) := by decide +kernel
theorem d_P_put_20 : decode prog_5_method_17_code 20 = .ok (.iload_n 1, 1) := by decide +kernel
theorem d_P_put_21 : decode prog_5_method_17_code 21 = .ok (.dup2, 1) := by decide +kernel
theorem d_P_put_22 : decode prog_5_method_17_code 22 = .ok (.iaload, 1) := by decide +kernel
theorem d_P_put_23 : decode prog_5_method_17_code 23 = .ok (.iconst 1, 1) := by decide +kernel
theorem d_P_put_24 : decode prog_5_method_17_code 24 = .ok (.iadd, 1) := by decide +kernel
theorem d_P_put_25 : decode prog_5_method_17_code 25 = .ok (.iastore, 1) := by decide +kernel
theorem d_P_put_26 : decode prog_5_method_17_code 26 = .ok (.return_, 1) := by decide +kernel
theorem d_P_drop_0 : decode prog_5_method_18_code 0 = .ok (.aload_n 0, 1) := by decide +kernel
theorem d_P_drop_1 : decode prog_5_method_18_code 1 = .ok (.getfield 15, 3) := by decide +kernel
theorem d_P_drop_4 : decode prog_5_method_18_code 4 = .ok (.iload_n 1, 1) := by decide +kernel
theorem d_P_drop_5 : decode prog_5_method_18_code 5 = .ok (.iconst 2, 1) := by decide +kernel
theorem d_P_drop_6 : decode prog_5_method_18_code 6 = .ok (.imul, 1) := by decide +kernel
theorem d_P_drop_7 : decode prog_5_method_18_code 7 = .ok (.aload_n 0, 1) := by decide +kernel
theorem d_P_drop_8 : decode prog_5_method_18_code 8 = .ok (.getfield 15, 3) := by decide +kernel
theorem d_P_drop_11 : decode prog_5_method_18_code 11 = .ok (.iload_n 1, 1) := by decide +kernel
theorem d_P_drop_12 : decode prog_5_method_18_code 12 = .ok (.iconst 2, 1) := by decide +kernel
theorem d_P_drop_13 : decode prog_5_method_18_code 13 = .ok (.imul, 1) := by decide +kernel
theorem d_P_drop_14 : decode prog_5_method_18_code 14 = .ok (.iconst 1, 1) := by decide +kernel
theorem d_P_drop_15 : decode prog_5_method_18_code 15 = .ok (.iadd, 1) := by decide +kernel
theorem d_P_drop_16 : decode prog_5_method_18_code 16 = .ok (.iaload, 1) := by decide +kernel
theorem d_P_drop_17 : decode prog_5_method_18_code 17 = .ok (.iastore, 1) := by decide +kernel
theorem d_P_drop_18 : decode prog_5_method_18_code 18 = .ok (.aload_n 0, 1) := by decide +kernel
theorem d_P_drop_19 : decode prog_5_method_18_code 19 = .ok (.getfield 19, 3) := by decide +kernel
theorem d_P_drop_22 : decode prog_5_method_18_code 22 = .ok (.iload_n 1, 1) := by decide +kernel
theorem d_P_drop_23 : decode prog_5_method_18_code 23 = .ok (.dup2, 1) := by decide +kernel
theorem d_P_drop_24 : decode prog_5_method_18_code 24 = .ok (.iaload, 1) := by decide +kernel
theorem d_P_drop_25 : decode prog_5_method_18_code 25 = .ok (.iconst 1, 1) := by decide +kernel
theorem d_P_drop_26 : decode prog_5_method_18_code 26 = .ok (.isub, 1) := by decide +kernel
theorem d_P_drop_27 : decode prog_5_method_18_code 27 = .ok (.iastore, 1) := by decide +kernel
theorem d_P_drop_28 : decode prog_5_method_18_code 28 = .ok (.return_, 1) := by decide +kernel
