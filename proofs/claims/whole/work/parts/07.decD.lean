theorem d_D_init_0 : decode prog_3_method_1_code 0 = .ok (.aload_n 0, 1) := by decide +kernel
theorem d_D_init_1 : decode prog_3_method_1_code 1 = .ok (.invokespecial 3, 3) := by decide +kernel
theorem d_D_init_4 : decode prog_3_method_1_code 4 = .ok (.aload_n 0, 1) := by decide +kernel
theorem d_D_init_5 : decode prog_3_method_1_code 5 = .ok (.iconst 0, 1) := by decide +kernel
theorem d_D_init_6 : decode prog_3_method_1_code 6 = .ok (.putfield 9, 3) := by decide +kernel
theorem d_D_init_9 : decode prog_3_method_1_code 9 = .ok (.aload_n 0, 1) := by decide +kernel
theorem d_D_init_10 : decode prog_3_method_1_code 10 = .ok (.iconst 0, 1) := by decide +kernel
theorem d_D_init_11 : decode prog_3_method_1_code 11 = .ok (.putfield 15, 3) := by decide +kernel
theorem d_D_init_14 : decode prog_3_method_1_code 14 = .ok (.aload_n 0, 1) := by decide +kernel
theorem d_D_init_15 : decode prog_3_method_1_code 15 = .ok (.iconst 0, 1) := by decide +kernel
theorem d_D_init_16 : decode prog_3_method_1_code 16 = .ok (.putfield 18, 3) := by decide +kernel
theorem d_D_init_19 : decode prog_3_method_1_code 19 = .ok (.aload_n 0, 1) := by decide +kernel
theorem d_D_init_20 : decode prog_3_method_1_code 20 = .ok (.iconst 0, 1) := by decide +kernel
theorem d_D_init_21 : decode prog_3_method_1_code 21 = .ok (.putfield 21, 3) := by decide +kernel
theorem d_D_init_24 : decode prog_3_method_1_code 24 = .ok (.aload_n 0, 1) := by decide +kernel
theorem d_D_init_25 : decode prog_3_method_1_code 25 = .ok (.bipush (10), 2) := by decide +kernel
theorem d_D_init_27 : decode prog_3_method_1_code 27 = .ok (.newarray .int, 2) := by decide +kernel
theorem d_D_init_29 : decode prog_3_method_1_code 29 = .ok (.putfield 24, 3) := by decide +kernel
theorem d_D_init_32 : decode prog_3_method_1_code 32 = .ok (.aload_n 0, 1) := by decide +kernel
theorem d_D_init_33 : decode prog_3_method_1_code 33 = .ok (.bipush (10), 2) := by decide +kernel
theorem d_D_init_35 : decode prog_3_method_1_code 35 = .ok (.newarray .int, 2) := by decide +kernel
theorem d_D_init_37 : decode prog_3_method_1_code 37 = .ok (.putfield 28, 3) := by decide +kernel
theorem d_D_init_40 : decode prog_3_method_1_code 40 = .ok (.aload_n 0, 1) := by decide +kernel
theorem d_D_init_41 : decode prog_3_method_1_code 41 = .ok (.bipush (20), 2) := by decide +kernel
theorem d_D_init_43 : decode prog_3_method_1_code 43 = .ok (.newarray .int, 2) := by decide +kernel
theorem d_D_init_45 : decode prog_3_method_1_code 45 = .ok (.putfield 31, 3) := by decide +kernel
theorem d_D_init_48 : decode prog_3_method_1_code 48 = .ok (.aload_n 0, 1) := by decide +kernel
theorem d_D_init_49 : decode prog_3_method_1_code 49 = .ok (.bipush (20), 2) := by decide +kernel
theorem d_D_init_51 : decode prog_3_method_1_code 51 = .ok (.newarray .int, 2) := by decide +kernel
theorem d_D_init_53 : decode prog_3_method_1_code 53 = .ok (.putfield 34, 3) := by decide +kernel
theorem d_D_init_56 : decode prog_3_method_1_code 56 = .ok (.aload_n 0, 1) := by decide +kernel
theorem d_D_init_57 : decode prog_3_method_1_code 57 = .ok (.bipush (20), 2) := by decide +kernel
theorem d_D_init_59 : decode prog_3_method_1_code 59 = .ok (.newarray .int, 2) := by decide +kernel
theorem d_D_init_61 : decode prog_3_method_1_code 61 = .ok (.putfield 37, 3) := by decide +kernel
theorem d_D_init_64 : decode prog_3_method_1_code 64 = .ok (.aload_n 0, 1) := by decide +kernel
theorem d_D_init_65 : decode prog_3_method_1_code 65 = .ok (.bipush (20), 2) := by decide +kernel
theorem d_D_init_67 : decode prog_3_method_1_code 67 = .ok (.newarray .int, 2) := by decide +kernel
theorem d_D_init_69 : decode prog_3_method_1_code 69 = .ok (.putfield 40, 3) := by decide +kernel
theorem d_D_init_72 : decode prog_3_method_1_code 72 = .ok (.aload_n 0, 1) := by decide +kernel
theorem d_D_init_73 : decode prog_3_method_1_code 73 = .ok (.iconst 4, 1) := by decide +kernel
theorem d_D_init_74 : decode prog_3_method_1_code 74 = .ok (.newarray .int, 2) := by decide +kernel
theorem d_D_init_76 : decode prog_3_method_1_code 76 = .ok (.putfield 43, 3) := by decide +kernel
theorem d_D_init_79 : decode prog_3_method_1_code 79 = .ok (.aload_n 0, 1) := by decide +kernel
theorem d_D_init_80 : decode prog_3_method_1_code 80 = .ok (.bipush (10), 2) := by decide +kernel
theorem d_D_init_82 : decode prog_3_method_1_code 82 = .ok (.bipush (24), 2) := by decide +kernel
theorem d_D_init_84 : decode prog_3_method_1_code 84 = .ok (.multianewarray 46 2, 4) := by decide +kernel
theorem d_D_init_88 : decode prog_3_method_1_code 88 = .ok (.putfield 48, 3) := by decide +kernel
theorem d_D_init_91 : decode prog_3_method_1_code 91 = .ok (.aload_n 0, 1) := by decide +kernel
theorem d_D_init_92 : decode prog_3_method_1_code 92 = .ok (.bipush (10), 2) := by decide +kernel
theorem d_D_init_94 : decode prog_3_method_1_code 94 = .ok (.newarray .int, 2) := by decide +kernel
theorem d_D_init_96 : decode prog_3_method_1_code 96 = .ok (.putfield 51, 3) := by decide +kernel
theorem d_D_init_99 : decode prog_3_method_1_code 99 = .ok (.aload_n 0, 1) := by decide +kernel
theorem d_D_init_100 : decode prog_3_method_1_code 100 = .ok (.bipush (10), 2) := by decide +kernel
theorem d_D_init_102 : decode prog_3_method_1_code 102 = .ok (.bipush (24), 2) := by decide +kernel
theorem d_D_init_104 : decode prog_3_method_1_code 104 = .ok (.multianewarray 46 2, 4) := by decide +kernel
theorem d_D_init_108 : decode prog_3_method_1_code 108 = .ok (.putfield 54, 3) := by decide +kernel
theorem d_D_init_111 : decode prog_3_method_1_code 111 = .ok (.aload_n 0, 1) := by decide +kernel
theorem d_D_init_112 : decode prog_3_method_1_code 112 = .ok (.bipush (10), 2) := by decide +kernel
theorem d_D_init_114 : decode prog_3_method_1_code 114 = .ok (.newarray .int, 2) := by decide +kernel
theorem d_D_init_116 : decode prog_3_method_1_code 116 = .ok (.putfield 57, 3) := by decide +kernel
theorem d_D_init_119 : decode prog_3_method_1_code 119 = .ok (.return_, 1) := by decide +kernel
theorem d_D_empty_0 : decode prog_3_method_2_code 0 = .ok (.aload_n 0, 1) := by decide +kernel
theorem d_D_empty_1 : decode prog_3_method_2_code 1 = .ok (.iconst 0, 1) := by decide +kernel
theorem d_D_empty_2 : decode prog_3_method_2_code 2 = .ok (.putfield 9, 3) := by decide +kernel
theorem d_D_empty_5 : decode prog_3_method_2_code 5 = .ok (.aload_n 0, 1) := by decide +kernel
theorem d_D_empty_6 : decode prog_3_method_2_code 6 = .ok (.iconst 0, 1) := by decide +kernel
theorem d_D_empty_7 : decode prog_3_method_2_code 7 = .ok (.putfield 15, 3) := by decide +kernel
theorem d_D_empty_10 : decode prog_3_method_2_code 10 = .ok (.aload_n 0, 1) := by decide +kernel
theorem d_D_empty_11 : decode prog_3_method_2_code 11 = .ok (.iconst 0, 1) := by decide +kernel
theorem d_D_empty_12 : decode prog_3_method_2_code 12 = .ok (.putfield 18, 3) := by decide +kernel
theorem d_D_empty_15 : decode prog_3_method_2_code 15 = .ok (.aload_n 0, 1) := by decide +kernel
theorem d_D_empty_16 : decode prog_3_method_2_code 16 = .ok (.iconst 0, 1) := by decide +kernel
theorem d_D_empty_17 : decode prog_3_method_2_code 17 = .ok (.putfield 21, 3) := by decide +kernel
theorem d_D_empty_20 : decode prog_3_method_2_code 20 = .ok (.return_, 1) := by decide +kernel
theorem d_D_addBlock_0 : decode prog_3_method_3_code 0 = .ok (.aload_n 0, 1) := by decide +kernel
theorem d_D_addBlock_1 : decode prog_3_method_3_code 1 = .ok (.getfield 9, 3) := by decide +kernel
theorem d_D_addBlock_4 : decode prog_3_method_3_code 4 = .ok (.bipush (10), 2) := by decide +kernel
theorem d_D_addBlock_6 : decode prog_3_method_3_code 6 = .ok (.if_icmp .lt (5), 3) := by decide +kernel
theorem d_D_addBlock_9 : decode prog_3_method_3_code 9 = .ok (.iconst (-1), 1) := by decide +kernel
theorem d_D_addBlock_10 : decode prog_3_method_3_code 10 = .ok (.ireturn, 1) := by decide +kernel
theorem d_D_addBlock_11 : decode prog_3_method_3_code 11 = .ok (.aload_n 0, 1) := by decide +kernel
theorem d_D_addBlock_12 : decode prog_3_method_3_code 12 = .ok (.getfield 24, 3) := by decide +kernel
theorem d_D_addBlock_15 : decode prog_3_method_3_code 15 = .ok (.aload_n 0, 1) := by decide +kernel
theorem d_D_addBlock_16 : decode prog_3_method_3_code 16 = .ok (.getfield 9, 3) := by decide +kernel
theorem d_D_addBlock_19 : decode prog_3_method_3_code 19 = .ok (.iload_n 1, 1) := by decide +kernel
theorem d_D_addBlock_20 : decode prog_3_method_3_code 20 = .ok (.iastore, 1) := by decide +kernel
theorem d_D_addBlock_21 : decode prog_3_method_3_code 21 = .ok (.aload_n 0, 1) := by decide +kernel
theorem d_D_addBlock_22 : decode prog_3_method_3_code 22 = .ok (.getfield 28, 3) := by decide +kernel
theorem d_D_addBlock_25 : decode prog_3_method_3_code 25 = .ok (.aload_n 0, 1) := by decide +kernel
theorem d_D_addBlock_26 : decode prog_3_method_3_code 26 = .ok (.getfield 9, 3) := by decide +kernel
theorem d_D_addBlock_29 : decode prog_3_method_3_code 29 = .ok (.iload_n 2, 1) := by decide +kernel
theorem d_D_addBlock_30 : decode prog_3_method_3_code 30 = .ok (.iastore, 1) := by decide +kernel
theorem d_D_addBlock_31 : decode prog_3_method_3_code 31 = .ok (.aload_n 0, 1) := by decide +kernel
theorem d_D_addBlock_32 : decode prog_3_method_3_code 32 = .ok (.getfield 51, 3) := by decide +kernel
theorem d_D_addBlock_35 : decode prog_3_method_3_code 35 = .ok (.aload_n 0, 1) := by decide +kernel
theorem d_D_addBlock_36 : decode prog_3_method_3_code 36 = .ok (.getfield 9, 3) := by decide +kernel
theorem d_D_addBlock_39 : decode prog_3_method_3_code 39 = .ok (.iconst 0, 1) := by decide +kernel
theorem d_D_addBlock_40 : decode prog_3_method_3_code 40 = .ok (.iastore, 1) := by decide +kernel
theorem d_D_addBlock_41 : decode prog_3_method_3_code 41 = .ok (.aload_n 0, 1) := by decide +kernel
theorem d_D_addBlock_42 : decode prog_3_method_3_code 42 = .ok (.getfield 57, 3) := by decide +kernel
theorem d_D_addBlock_45 : decode prog_3_method_3_code 45 = .ok (.aload_n 0, 1) := by decide +kernel
theorem d_D_addBlock_46 : decode prog_3_method_3_code 46 = .ok (.getfield 9, 3) := by decide +kernel
theorem d_D_addBlock_49 : decode prog_3_method_3_code 49 = .ok (.iconst 0, 1) := by decide +kernel
theorem d_D_addBlock_50 : decode prog_3_method_3_code 50 = .ok (.iastore, 1) := by decide +kernel
theorem d_D_addBlock_51 : decode prog_3_method_3_code 51 = .ok (.aload_n 0, 1) := by decide +kernel
theorem d_D_addBlock_52 : decode prog_3_method_3_code 52 = .ok (.dup, 1) := by decide +kernel
theorem d_D_addBlock_53 : decode prog_3_method_3_code 53 = .ok (.getfield 9, 3) := by decide +kernel
theorem d_D_addBlock_56 : decode prog_3_method_3_code 56 = .ok (.dup_x1, 1) := by decide +kernel
theorem d_D_addBlock_57 : decode prog_3_method_3_code 57 = .ok (.iconst 1, 1) := by decide +kernel
theorem d_D_addBlock_58 : decode prog_3_method_3_code 58 = .ok (.iadd, 1) := by decide +kernel
theorem d_D_addBlock_59 : decode prog_3_method_3_code 59 = .ok (.putfield 9, 3) := by decide +kernel
theorem d_D_addBlock_62 : decode prog_3_method_3_code 62 = .ok (.ireturn, 1) := by decide +kernel
theorem d_D_addChannel_0 : decode prog_3_method_4_code 0 = .ok (.aload_n 0, 1) := by decide +kernel
theorem d_D_addChannel_1 : decode prog_3_method_4_code 1 = .ok (.getfield 15, 3) := by decide +kernel
theorem d_D_addChannel_4 : decode prog_3_method_4_code 4 = .ok (.bipush (20), 2) := by decide +kernel
theorem d_D_addChannel_6 : decode prog_3_method_4_code 6 = .ok (.if_icmp .lt (5), 3) := by decide +kernel
theorem d_D_addChannel_9 : decode prog_3_method_4_code 9 = .ok (.iconst (-1), 1) := by decide +kernel
theorem d_D_addChannel_10 : decode prog_3_method_4_code 10 = .ok (.ireturn, 1) := by decide +kernel
theorem d_D_addChannel_11 : decode prog_3_method_4_code 11 = .ok (.aload_n 0, 1) := by decide +kernel
theorem d_D_addChannel_12 : decode prog_3_method_4_code 12 = .ok (.getfield 31, 3) := by decide +kernel
theorem d_D_addChannel_15 : decode prog_3_method_4_code 15 = .ok (.aload_n 0, 1) := by decide +kernel
theorem d_D_addChannel_16 : decode prog_3_method_4_code 16 = .ok (.getfield 15, 3) := by decide +kernel
theorem d_D_addChannel_19 : decode prog_3_method_4_code 19 = .ok (.iload_n 1, 1) := by decide +kernel
theorem d_D_addChannel_20 : decode prog_3_method_4_code 20 = .ok (.iastore, 1) := by decide +kernel
theorem d_D_addChannel_21 : decode prog_3_method_4_code 21 = .ok (.aload_n 0, 1) := by decide +kernel
theorem d_D_addChannel_22 : decode prog_3_method_4_code 22 = .ok (.getfield 34, 3) := by decide +kernel
theorem d_D_addChannel_25 : decode prog_3_method_4_code 25 = .ok (.aload_n 0, 1) := by decide +kernel
theorem d_D_addChannel_26 : decode prog_3_method_4_code 26 = .ok (.getfield 15, 3) := by decide +kernel
theorem d_D_addChannel_29 : decode prog_3_method_4_code 29 = .ok (.iload_n 2, 1) := by decide +kernel
theorem d_D_addChannel_30 : decode prog_3_method_4_code 30 = .ok (.iastore, 1) := by decide +kernel
theorem d_D_addChannel_31 : decode prog_3_method_4_code 31 = .ok (.aload_n 0, 1) := by decide +kernel
theorem d_D_addChannel_32 : decode prog_3_method_4_code 32 = .ok (.getfield 37, 3) := by decide +kernel
theorem d_D_addChannel_35 : decode prog_3_method_4_code 35 = .ok (.aload_n 0, 1) := by decide +kernel
theorem d_D_addChannel_36 : decode prog_3_method_4_code 36 = .ok (.getfield 15, 3) := by decide +kernel
theorem d_D_addChannel_39 : decode prog_3_method_4_code 39 = .ok (.iload_n 3, 1) := by decide +kernel
theorem d_D_addChannel_40 : decode prog_3_method_4_code 40 = .ok (.iastore, 1) := by decide +kernel
theorem d_D_addChannel_41 : decode prog_3_method_4_code 41 = .ok (.aload_n 0, 1) := by decide +kernel
theorem d_D_addChannel_42 : decode prog_3_method_4_code 42 = .ok (.getfield 40, 3) := by decide +kernel
theorem d_D_addChannel_45 : decode prog_3_method_4_code 45 = .ok (.aload_n 0, 1) := by decide +kernel
theorem d_D_addChannel_46 : decode prog_3_method_4_code 46 = .ok (.getfield 15, 3) := by decide +kernel
theorem d_D_addChannel_49 : decode prog_3_method_4_code 49 = .ok (.iconst 0, 1) := by decide +kernel
theorem d_D_addChannel_50 : decode prog_3_method_4_code 50 = .ok (.iastore, 1) := by decide +kernel
theorem d_D_addChannel_51 : decode prog_3_method_4_code 51 = .ok (.aload_n 0, 1) := by decide +kernel
theorem d_D_addChannel_52 : decode prog_3_method_4_code 52 = .ok (.iload_n 1, 1) := by decide +kernel
theorem d_D_addChannel_53 : decode prog_3_method_4_code 53 = .ok (.aload_n 0, 1) := by decide +kernel
theorem d_D_addChannel_54 : decode prog_3_method_4_code 54 = .ok (.getfield 15, 3) := by decide +kernel
theorem d_D_addChannel_57 : decode prog_3_method_4_code 57 = .ok (.invokevirtual 60, 3) := by decide +kernel
theorem d_D_addChannel_60 : decode prog_3_method_4_code 60 = .ok (.aload_n 0, 1) := by decide +kernel
theorem d_D_addChannel_61 : decode prog_3_method_4_code 61 = .ok (.iload_n 2, 1) := by decide +kernel
theorem d_D_addChannel_62 : decode prog_3_method_4_code 62 = .ok (.aload_n 0, 1) := by decide +kernel
theorem d_D_addChannel_63 : decode prog_3_method_4_code 63 = .ok (.getfield 15, 3) := by decide +kernel
theorem d_D_addChannel_66 : decode prog_3_method_4_code 66 = .ok (.invokevirtual 64, 3) := by decide +kernel
theorem d_D_addChannel_69 : decode prog_3_method_4_code 69 = .ok (.aload_n 0, 1) := by decide +kernel
theorem d_D_addChannel_70 : decode prog_3_method_4_code 70 = .ok (.dup, 1) := by decide +kernel
theorem d_D_addChannel_71 : decode prog_3_method_4_code 71 = .ok (.getfield 15, 3) := by decide +kernel
theorem d_D_addChannel_74 : decode prog_3_method_4_code 74 = .ok (.dup_x1, 1) := by decide +kernel
theorem d_D_addChannel_75 : decode prog_3_method_4_code 75 = .ok (.iconst 1, 1) := by decide +kernel
theorem d_D_addChannel_76 : decode prog_3_method_4_code 76 = .ok (.iadd, 1) := by decide +kernel
theorem d_D_addChannel_77 : decode prog_3_method_4_code 77 = .ok (.putfield 15, 3) := by decide +kernel
theorem d_D_addChannel_80 : decode prog_3_method_4_code 80 = .ok (.ireturn, 1) := by decide +kernel
theorem d_D_addInput_0 : decode prog_3_method_5_code 0 = .ok (.aload_n 0, 1) := by decide +kernel
theorem d_D_addInput_1 : decode prog_3_method_5_code 1 = .ok (.getfield 18, 3) := by decide +kernel
theorem d_D_addInput_4 : decode prog_3_method_5_code 4 = .ok (.iconst 4, 1) := by decide +kernel
theorem d_D_addInput_5 : decode prog_3_method_5_code 5 = .ok (.if_icmp .lt (5), 3) := by decide +kernel
theorem d_D_addInput_8 : decode prog_3_method_5_code 8 = .ok (.iconst (-1), 1) := by decide +kernel
theorem d_D_addInput_9 : decode prog_3_method_5_code 9 = .ok (.ireturn, 1) := by decide +kernel
theorem d_D_addInput_10 : decode prog_3_method_5_code 10 = .ok (.aload_n 0, 1) := by decide +kernel
theorem d_D_addInput_11 : decode prog_3_method_5_code 11 = .ok (.iload_n 1, 1) := by decide +kernel
theorem d_D_addInput_12 : decode prog_3_method_5_code 12 = .ok (.bipush (20), 2) := by decide +kernel
theorem d_D_addInput_14 : decode prog_3_method_5_code 14 = .ok (.aload_n 0, 1) := by decide +kernel
theorem d_D_addInput_15 : decode prog_3_method_5_code 15 = .ok (.getfield 18, 3) := by decide +kernel
theorem d_D_addInput_18 : decode prog_3_method_5_code 18 = .ok (.iadd, 1) := by decide +kernel
theorem d_D_addInput_19 : decode prog_3_method_5_code 19 = .ok (.invokevirtual 64, 3) := by decide +kernel
theorem d_D_addInput_22 : decode prog_3_method_5_code 22 = .ok (.aload_n 0, 1) := by decide +kernel
theorem d_D_addInput_23 : decode prog_3_method_5_code 23 = .ok (.dup, 1) := by decide +kernel
theorem d_D_addInput_24 : decode prog_3_method_5_code 24 = .ok (.getfield 18, 3) := by decide +kernel
theorem d_D_addInput_27 : decode prog_3_method_5_code 27 = .ok (.dup_x1, 1) := by decide +kernel
theorem d_D_addInput_28 : decode prog_3_method_5_code 28 = .ok (.iconst 1, 1) := by decide +kernel
theorem d_D_addInput_29 : decode prog_3_method_5_code 29 = .ok (.iadd, 1) := by decide +kernel
theorem d_D_addInput_30 : decode prog_3_method_5_code 30 = .ok (.putfield 18, 3) := by decide +kernel
theorem d_D_addInput_33 : decode prog_3_method_5_code 33 = .ok (.ireturn, 1) := by decide +kernel
theorem d_D_addOutput_0 : decode prog_3_method_6_code 0 = .ok (.aload_n 0, 1) := by decide +kernel
theorem d_D_addOutput_1 : decode prog_3_method_6_code 1 = .ok (.getfield 21, 3) := by decide +kernel
theorem d_D_addOutput_4 : decode prog_3_method_6_code 4 = .ok (.iconst 4, 1) := by decide +kernel
theorem d_D_addOutput_5 : decode prog_3_method_6_code 5 = .ok (.if_icmp .lt (5), 3) := by decide +kernel
theorem d_D_addOutput_8 : decode prog_3_method_6_code 8 = .ok (.iconst (-1), 1) := by decide +kernel
theorem d_D_addOutput_9 : decode prog_3_method_6_code 9 = .ok (.ireturn, 1) := by decide +kernel
theorem d_D_addOutput_10 : decode prog_3_method_6_code 10 = .ok (.aload_n 0, 1) := by decide +kernel
theorem d_D_addOutput_11 : decode prog_3_method_6_code 11 = .ok (.getfield 43, 3) := by decide +kernel
theorem d_D_addOutput_14 : decode prog_3_method_6_code 14 = .ok (.aload_n 0, 1) := by decide +kernel
theorem d_D_addOutput_15 : decode prog_3_method_6_code 15 = .ok (.getfield 21, 3) := by decide +kernel
theorem d_D_addOutput_18 : decode prog_3_method_6_code 18 = .ok (.iload_n 1, 1) := by decide +kernel
theorem d_D_addOutput_19 : decode prog_3_method_6_code 19 = .ok (.iastore, 1) := by decide +kernel
theorem d_D_addOutput_20 : decode prog_3_method_6_code 20 = .ok (.aload_n 0, 1) := by decide +kernel
theorem d_D_addOutput_21 : decode prog_3_method_6_code 21 = .ok (.iload_n 1, 1) := by decide +kernel
theorem d_D_addOutput_22 : decode prog_3_method_6_code 22 = .ok (.bipush (20), 2) := by decide +kernel
theorem d_D_addOutput_24 : decode prog_3_method_6_code 24 = .ok (.aload_n 0, 1) := by decide +kernel
theorem d_D_addOutput_25 : decode prog_3_method_6_code 25 = .ok (.getfield 21, 3) := by decide +kernel
theorem d_D_addOutput_28 : decode prog_3_method_6_code 28 = .ok (.iadd, 1) := by decide +kernel
theorem d_D_addOutput_29 : decode prog_3_method_6_code 29 = .ok (.invokevirtual 60, 3) := by decide +kernel
theorem d_D_addOutput_32 : decode prog_3_method_6_code 32 = .ok (.aload_n 0, 1) := by decide +kernel
theorem d_D_addOutput_33 : decode prog_3_method_6_code 33 = .ok (.dup, 1) := by decide +kernel
theorem d_D_addOutput_34 : decode prog_3_method_6_code 34 = .ok (.getfield 21, 3) := by decide +kernel
theorem d_D_addOutput_37 : decode prog_3_method_6_code 37 = .ok (.dup_x1, 1) := by decide +kernel
theorem d_D_addOutput_38 : decode prog_3_method_6_code 38 = .ok (.iconst 1, 1) := by decide +kernel
theorem d_D_addOutput_39 : decode prog_3_method_6_code 39 = .ok (.iadd, 1) := by decide +kernel
theorem d_D_addOutput_40 : decode prog_3_method_6_code 40 = .ok (.putfield 21, 3) := by decide +kernel
theorem d_D_addOutput_43 : decode prog_3_method_6_code 43 = .ok (.ireturn, 1) := by decide +kernel
theorem d_D_linkIn_0 : decode prog_3_method_7_code 0 = .ok (.aload_n 0, 1) := by decide +kernel
theorem d_D_linkIn_1 : decode prog_3_method_7_code 1 = .ok (.getfield 48, 3) := by decide +kernel
theorem d_D_linkIn_4 : decode prog_3_method_7_code 4 = .ok (.iload_n 1, 1) := by decide +kernel
theorem d_D_linkIn_5 : decode prog_3_method_7_code 5 = .ok (.aaload, 1) := by decide +kernel
theorem d_D_linkIn_6 : decode prog_3_method_7_code 6 = .ok (.aload_n 0, 1) := by decide +kernel
theorem d_D_linkIn_7 : decode prog_3_method_7_code 7 = .ok (.getfield 51, 3) := by decide +kernel
theorem d_D_linkIn_10 : decode prog_3_method_7_code 10 = .ok (.iload_n 1, 1) := by decide +kernel
theorem d_D_linkIn_11 : decode prog_3_method_7_code 11 = .ok (.iaload, 1) := by decide +kernel
theorem d_D_linkIn_12 : decode prog_3_method_7_code 12 = .ok (.iload_n 2, 1) := by decide +kernel
theorem d_D_linkIn_13 : decode prog_3_method_7_code 13 = .ok (.iastore, 1) := by decide +kernel
theorem d_D_linkIn_14 : decode prog_3_method_7_code 14 = .ok (.aload_n 0, 1) := by decide +kernel
theorem d_D_linkIn_15 : decode prog_3_method_7_code 15 = .ok (.getfield 51, 3) := by decide +kernel
theorem d_D_linkIn_18 : decode prog_3_method_7_code 18 = .ok (.iload_n 1, 1) := by decide +kernel
theorem d_D_linkIn_19 : decode prog_3_method_7_code 19 = .ok (.dup2, 1) := by decide +kernel
theorem d_D_linkIn_20 : decode prog_3_method_7_code 20 = .ok (.iaload, 1) := by decide +kernel
theorem d_D_linkIn_21 : decode prog_3_method_7_code 21 = .ok (.iconst 1, 1) := by decide +kernel
theorem d_D_linkIn_22 : decode prog_3_method_7_code 22 = .ok (.iadd, 1) := by decide +kernel
theorem d_D_linkIn_23 : decode prog_3_method_7_code 23 = .ok (.iastore, 1) := by decide +kernel
theorem d_D_linkIn_24 : decode prog_3_method_7_code 24 = .ok (.return_, 1) := by decide +kernel
theorem d_D_linkOut_0 : decode prog_3_method_8_code 0 = .ok (.aload_n 0, 1) := by decide +kernel
theorem d_D_linkOut_1 : decode prog_3_method_8_code 1 = .ok (.getfield 54, 3) := by decide +kernel
theorem d_D_linkOut_4 : decode prog_3_method_8_code 4 = .ok (.iload_n 1, 1) := by decide +kernel
theorem d_D_linkOut_5 : decode prog_3_method_8_code 5 = .ok (.aaload, 1) := by decide +kernel
theorem d_D_linkOut_6 : decode prog_3_method_8_code 6 = .ok (.aload_n 0, 1) := by decide +kernel
theorem d_D_linkOut_7 : decode prog_3_method_8_code 7 = .ok (.getfield 57, 3) := by decide +kernel
theorem d_D_linkOut_10 : decode prog_3_method_8_code 10 = .ok (.iload_n 1, 1) := by decide +kernel
theorem d_D_linkOut_11 : decode prog_3_method_8_code 11 = .ok (.iaload, 1) := by decide +kernel
theorem d_D_linkOut_12 : decode prog_3_method_8_code 12 = .ok (.iload_n 2, 1) := by decide +kernel
theorem d_D_linkOut_13 : decode prog_3_method_8_code 13 = .ok (.iastore, 1) := by decide +kernel
theorem d_D_linkOut_14 : decode prog_3_method_8_code 14 = .ok (.aload_n 0, 1) := by decide +kernel
theorem d_D_linkOut_15 : decode prog_3_method_8_code 15 = .ok (.getfield 57, 3) := by decide +kernel
theorem d_D_linkOut_18 : decode prog_3_method_8_code 18 = .ok (.iload_n 1, 1) := by decide +kernel
theorem d_D_linkOut_19 : decode prog_3_method_8_code 19 = .ok (.dup2, 1) := by decide +kernel
theorem d_D_linkOut_20 : decode prog_3_method_8_code 20 = .ok (.iaload, 1) := by decide +kernel
theorem d_D_linkOut_21 : decode prog_3_method_8_code 21 = .ok (.iconst 1, 1) := by decide +kernel
theorem d_D_linkOut_22 : decode prog_3_method_8_code 22 = .ok (.iadd, 1) := by decide +kernel
theorem d_D_linkOut_23 : decode prog_3_method_8_code 23 = .ok (.iastore, 1) := by decide +kernel
theorem d_D_linkOut_24 : decode prog_3_method_8_code 24 = .ok (.return_, 1) := by decide +kernel
theorem d_D_countBuffers_0 : decode prog_3_method_9_code 0 = .ok (.aload_n 0, 1) := by decide +kernel
theorem d_D_countBuffers_1 : decode prog_3_method_9_code 1 = .ok (.getfield 15, 3) := by decide +kernel
theorem d_D_countBuffers_4 : decode prog_3_method_9_code 4 = .ok (.istore_n 1, 1) := by decide +kernel
theorem d_D_countBuffers_5 : decode prog_3_method_9_code 5 = .ok (.iconst 0, 1) := by decide +kernel
theorem d_D_countBuffers_6 : decode prog_3_method_9_code 6 = .ok (.istore_n 2, 1) := by decide +kernel
theorem d_D_countBuffers_7 : decode prog_3_method_9_code 7 = .ok (.iload_n 2, 1) := by decide +kernel
theorem d_D_countBuffers_8 : decode prog_3_method_9_code 8 = .ok (.aload_n 0, 1) := by decide +kernel
theorem d_D_countBuffers_9 : decode prog_3_method_9_code 9 = .ok (.getfield 15, 3) := by decide +kernel
theorem d_D_countBuffers_12 : decode prog_3_method_9_code 12 = .ok (.if_icmp .ge (18), 3) := by decide +kernel
theorem d_D_countBuffers_15 : decode prog_3_method_9_code 15 = .ok (.iload_n 1, 1) := by decide +kernel
theorem d_D_countBuffers_16 : decode prog_3_method_9_code 16 = .ok (.aload_n 0, 1) := by decide +kernel
theorem d_D_countBuffers_17 : decode prog_3_method_9_code 17 = .ok (.getfield 40, 3) := by decide +kernel
theorem d_D_countBuffers_20 : decode prog_3_method_9_code 20 = .ok (.iload_n 2, 1) := by decide +kernel
theorem d_D_countBuffers_21 : decode prog_3_method_9_code 21 = .ok (.iaload, 1) := by decide +kernel
theorem d_D_countBuffers_22 : decode prog_3_method_9_code 22 = .ok (.iadd, 1) := by decide +kernel
theorem d_D_countBuffers_23 : decode prog_3_method_9_code 23 = .ok (.istore_n 1, 1) := by decide +kernel
theorem d_D_countBuffers_24 : decode prog_3_method_9_code 24 = .ok (.iinc 2 (1), 3) := by decide +kernel
theorem d_D_countBuffers_27 : decode prog_3_method_9_code 27 = .ok (.goto (-20), 3) := by decide +kernel
theorem d_D_countBuffers_30 : decode prog_3_method_9_code 30 = .ok (.iload_n 1, 1) := by decide +kernel
theorem d_D_countBuffers_31 : decode prog_3_method_9_code 31 = .ok (.ireturn, 1) := by decide +kernel
theorem d_D_lastBuffer_0 : decode prog_3_method_10_code 0 = .ok (.iload_n 1, 1) := by decide +kernel
theorem d_D_lastBuffer_1 : decode prog_3_method_10_code 1 = .ok (.iconst 4, 1) := by decide +kernel
theorem d_D_lastBuffer_2 : decode prog_3_method_10_code 2 = .ok (.imul, 1) := by decide +kernel
theorem d_D_lastBuffer_3 : decode prog_3_method_10_code 3 = .ok (.aload_n 0, 1) := by decide +kernel
theorem d_D_lastBuffer_4 : decode prog_3_method_10_code 4 = .ok (.getfield 40, 3) := by decide +kernel
theorem d_D_lastBuffer_7 : decode prog_3_method_10_code 7 = .ok (.iload_n 1, 1) := by decide +kernel
theorem d_D_lastBuffer_8 : decode prog_3_method_10_code 8 = .ok (.iaload, 1) := by decide +kernel
theorem d_D_lastBuffer_9 : decode prog_3_method_10_code 9 = .ok (.iadd, 1) := by decide +kernel
theorem d_D_lastBuffer_10 : decode prog_3_method_10_code 10 = .ok (.ireturn, 1) := by decide +kernel
theorem d_D_makes_0 : decode prog_3_method_11_code 0 = .ok (.aload_n 0, 1) := by decide +kernel
theorem d_D_makes_1 : decode prog_3_method_11_code 1 = .ok (.getfield 28, 3) := by decide +kernel
theorem d_D_makes_4 : decode prog_3_method_11_code 4 = .ok (.iload_n 1, 1) := by decide +kernel
theorem d_D_makes_5 : decode prog_3_method_11_code 5 = .ok (.iaload, 1) := by decide +kernel
theorem d_D_makes_6 : decode prog_3_method_11_code 6 = .ok (.istore_n 3, 1) := by decide +kernel
theorem d_D_makes_7 : decode prog_3_method_11_code 7 = .ok (.iconst 0, 1) := by decide +kernel
theorem d_D_makes_8 : decode prog_3_method_11_code 8 = .ok (.istore 4, 2) := by decide +kernel
theorem d_D_makes_10 : decode prog_3_method_11_code 10 = .ok (.iload 4, 2) := by decide +kernel
theorem d_D_makes_12 : decode prog_3_method_11_code 12 = .ok (.aload_n 0, 1) := by decide +kernel
theorem d_D_makes_13 : decode prog_3_method_11_code 13 = .ok (.getfield 51, 3) := by decide +kernel
theorem d_D_makes_16 : decode prog_3_method_11_code 16 = .ok (.iload_n 1, 1) := by decide +kernel
theorem d_D_makes_17 : decode prog_3_method_11_code 17 = .ok (.iaload, 1) := by decide +kernel
theorem d_D_makes_18 : decode prog_3_method_11_code 18 = .ok (.if_icmp .ge (31), 3) := by decide +kernel
theorem d_D_makes_21 : decode prog_3_method_11_code 21 = .ok (.aload_n 0, 1) := by decide +kernel
theorem d_D_makes_22 : decode prog_3_method_11_code 22 = .ok (.getfield 24, 3) := by decide +kernel
theorem d_D_makes_25 : decode prog_3_method_11_code 25 = .ok (.iload_n 1, 1) := by decide +kernel
theorem d_D_makes_26 : decode prog_3_method_11_code 26 = .ok (.iaload, 1) := by decide +kernel
theorem d_D_makes_27 : decode prog_3_method_11_code 27 = .ok (.iload_n 3, 1) := by decide +kernel
theorem d_D_makes_28 : decode prog_3_method_11_code 28 = .ok (.aload_n 2, 1) := by decide +kernel
theorem d_D_makes_29 : decode prog_3_method_11_code 29 = .ok (.aload_n 0, 1) := by decide +kernel
theorem d_D_makes_30 : decode prog_3_method_11_code 30 = .ok (.getfield 48, 3) := by decide +kernel
theorem d_D_makes_33 : decode prog_3_method_11_code 33 = .ok (.iload_n 1, 1) := by decide +kernel
theorem d_D_makes_34 : decode prog_3_method_11_code 34 = .ok (.aaload, 1) := by decide +kernel
theorem d_D_makes_35 : decode prog_3_method_11_code 35 = .ok (.iload 4, 2) := by decide +kernel
theorem d_D_makes_37 : decode prog_3_method_11_code 37 = .ok (.iaload, 1) := by decide +kernel
theorem d_D_makes_38 : decode prog_3_method_11_code 38 = .ok (.iaload, 1) := by decide +kernel
theorem d_D_makes_39 : decode prog_3_method_11_code 39 = .ok (.invokestatic 67, 3) := by decide +kernel
theorem d_D_makes_42 : decode prog_3_method_11_code 42 = .ok (.istore_n 3, 1) := by decide +kernel
theorem d_D_makes_43 : decode prog_3_method_11_code 43 = .ok (.iinc 4 (1), 3) := by decide +kernel
theorem d_D_makes_46 : decode prog_3_method_11_code 46 = .ok (.goto (-36), 3) := by decide +kernel
theorem d_D_makes_49 : decode prog_3_method_11_code 49 = .ok (.iload_n 3, 1) := by decide +kernel
theorem d_D_makes_50 : decode prog_3_method_11_code 50 = .ok (.ireturn, 1) := by decide +kernel
theorem d_D_joined_0 : decode prog_3_method_12_code 0 = .ok (.iload_n 0, 1) := by decide +kernel
theorem d_D_joined_1 : decode prog_3_method_12_code 1 = .ok (.tableswitch (49) 0 3 #[31, 35, 39, 43], 31) := by decide +kernel
theorem d_D_joined_32 : decode prog_3_method_12_code 32 = .ok (.iload_n 1, 1) := by decide +kernel
theorem d_D_joined_33 : decode prog_3_method_12_code 33 = .ok (.iload_n 2, 1) := by decide +kernel
theorem d_D_joined_34 : decode prog_3_method_12_code 34 = .ok (.iadd, 1) := by decide +kernel
theorem d_D_joined_35 : decode prog_3_method_12_code 35 = .ok (.ireturn, 1) := by decide +kernel
theorem d_D_joined_36 : decode prog_3_method_12_code 36 = .ok (.iload_n 1, 1) := by decide +kernel
theorem d_D_joined_37 : decode prog_3_method_12_code 37 = .ok (.iload_n 2, 1) := by decide +kernel
theorem d_D_joined_38 : decode prog_3_method_12_code 38 = .ok (.ixor, 1) := by decide +kernel
theorem d_D_joined_39 : decode prog_3_method_12_code 39 = .ok (.ireturn, 1) := by decide +kernel
theorem d_D_joined_40 : decode prog_3_method_12_code 40 = .ok (.iload_n 1, 1) := by decide +kernel
theorem d_D_joined_41 : decode prog_3_method_12_code 41 = .ok (.iload_n 2, 1) := by decide +kernel
theorem d_D_joined_42 : decode prog_3_method_12_code 42 = .ok (.imul, 1) := by decide +kernel
theorem d_D_joined_43 : decode prog_3_method_12_code 43 = .ok (.ireturn, 1) := by decide +kernel
theorem d_D_joined_44 : decode prog_3_method_12_code 44 = .ok (.iload_n 1, 1) := by decide +kernel
theorem d_D_joined_45 : decode prog_3_method_12_code 45 = .ok (.iload_n 2, 1) := by decide +kernel
theorem d_D_joined_46 : decode prog_3_method_12_code 46 = .ok (.invokestatic 71, 3) := by decide +kernel
theorem d_D_joined_49 : decode prog_3_method_12_code 49 = .ok (.ireturn, 1) := by decide +kernel
theorem d_D_joined_50 : decode prog_3_method_12_code 50 = .ok (.bipush (31), 2) := by decide +kernel
theorem d_D_joined_52 : decode prog_3_method_12_code 52 = .ok (.iload_n 1, 1) := by decide +kernel
theorem d_D_joined_53 : decode prog_3_method_12_code 53 = .ok (.imul, 1) := by decide +kernel
theorem d_D_joined_54 : decode prog_3_method_12_code 54 = .ok (.iload_n 2, 1) := by decide +kernel
theorem d_D_joined_55 : decode prog_3_method_12_code 55 = .ok (.iadd, 1) := by decide +kernel
theorem d_D_joined_56 : decode prog_3_method_12_code 56 = .ok (.ireturn, 1) := by decide +kernel
