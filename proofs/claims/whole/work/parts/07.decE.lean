theorem d_E_init_0 : decode prog_1_method_1_code 0 = .ok (.aload_n 0, 1) := by decide +kernel
theorem d_E_init_1 : decode prog_1_method_1_code 1 = .ok (.invokespecial 3, 3) := by decide +kernel
theorem d_E_init_4 : decode prog_1_method_1_code 4 = .ok (.aload_n 0, 1) := by decide +kernel
theorem d_E_init_5 : decode prog_1_method_1_code 5 = .ok (.new 9, 3) := by decide +kernel
theorem d_E_init_8 : decode prog_1_method_1_code 8 = .ok (.dup, 1) := by decide +kernel
theorem d_E_init_9 : decode prog_1_method_1_code 9 = .ok (.invokespecial 11, 3) := by decide +kernel
theorem d_E_init_12 : decode prog_1_method_1_code 12 = .ok (.putfield 12, 3) := by decide +kernel
theorem d_E_init_15 : decode prog_1_method_1_code 15 = .ok (.aload_n 0, 1) := by decide +kernel
theorem d_E_init_16 : decode prog_1_method_1_code 16 = .ok (.new 16, 3) := by decide +kernel
theorem d_E_init_19 : decode prog_1_method_1_code 19 = .ok (.dup, 1) := by decide +kernel
theorem d_E_init_20 : decode prog_1_method_1_code 20 = .ok (.aload_n 0, 1) := by decide +kernel
theorem d_E_init_21 : decode prog_1_method_1_code 21 = .ok (.getfield 12, 3) := by decide +kernel
theorem d_E_init_24 : decode prog_1_method_1_code 24 = .ok (.invokespecial 18, 3) := by decide +kernel
theorem d_E_init_27 : decode prog_1_method_1_code 27 = .ok (.putfield 21, 3) := by decide +kernel
theorem d_E_init_30 : decode prog_1_method_1_code 30 = .ok (.aload_n 0, 1) := by decide +kernel
theorem d_E_init_31 : decode prog_1_method_1_code 31 = .ok (.new 25, 3) := by decide +kernel
theorem d_E_init_34 : decode prog_1_method_1_code 34 = .ok (.dup, 1) := by decide +kernel
theorem d_E_init_35 : decode prog_1_method_1_code 35 = .ok (.aload_n 0, 1) := by decide +kernel
theorem d_E_init_36 : decode prog_1_method_1_code 36 = .ok (.getfield 12, 3) := by decide +kernel
theorem d_E_init_39 : decode prog_1_method_1_code 39 = .ok (.aload_n 0, 1) := by decide +kernel
theorem d_E_init_40 : decode prog_1_method_1_code 40 = .ok (.getfield 21, 3) := by decide +kernel
theorem d_E_init_43 : decode prog_1_method_1_code 43 = .ok (.getfield 27, 3) := by decide +kernel
theorem d_E_init_46 : decode prog_1_method_1_code 46 = .ok (.invokespecial 31, 3) := by decide +kernel
theorem d_E_init_49 : decode prog_1_method_1_code 49 = .ok (.putfield 34, 3) := by decide +kernel
theorem d_E_init_52 : decode prog_1_method_1_code 52 = .ok (.aload_n 0, 1) := by decide +kernel
theorem d_E_init_53 : decode prog_1_method_1_code 53 = .ok (.new 38, 3) := by decide +kernel
theorem d_E_init_56 : decode prog_1_method_1_code 56 = .ok (.dup, 1) := by decide +kernel
theorem d_E_init_57 : decode prog_1_method_1_code 57 = .ok (.aload_n 0, 1) := by decide +kernel
theorem d_E_init_58 : decode prog_1_method_1_code 58 = .ok (.getfield 12, 3) := by decide +kernel
theorem d_E_init_61 : decode prog_1_method_1_code 61 = .ok (.invokespecial 40, 3) := by decide +kernel
theorem d_E_init_64 : decode prog_1_method_1_code 64 = .ok (.putfield 41, 3) := by decide +kernel
theorem d_E_init_67 : decode prog_1_method_1_code 67 = .ok (.aload_n 0, 1) := by decide +kernel
theorem d_E_init_68 : decode prog_1_method_1_code 68 = .ok (.iconst 0, 1) := by decide +kernel
theorem d_E_init_69 : decode prog_1_method_1_code 69 = .ok (.putfield 45, 3) := by decide +kernel
theorem d_E_init_72 : decode prog_1_method_1_code 72 = .ok (.return_, 1) := by decide +kernel
theorem d_E_block_0 : decode prog_1_method_2_code 0 = .ok (.aload_n 0, 1) := by decide +kernel
theorem d_E_block_1 : decode prog_1_method_2_code 1 = .ok (.invokevirtual 49, 3) := by decide +kernel
theorem d_E_block_4 : decode prog_1_method_2_code 4 = .ok (.iload_n 1, 1) := by decide +kernel
theorem d_E_block_5 : decode prog_1_method_2_code 5 = .ok (.ifCond .lt (8), 3) := by decide +kernel
theorem d_E_block_8 : decode prog_1_method_2_code 8 = .ok (.iload_n 1, 1) := by decide +kernel
theorem d_E_block_9 : decode prog_1_method_2_code 9 = .ok (.iconst 4, 1) := by decide +kernel
theorem d_E_block_10 : decode prog_1_method_2_code 10 = .ok (.if_icmp .le (13), 3) := by decide +kernel
theorem d_E_block_13 : decode prog_1_method_2_code 13 = .ok (.new 52, 3) := by decide +kernel
theorem d_E_block_16 : decode prog_1_method_2_code 16 = .ok (.dup, 1) := by decide +kernel
theorem d_E_block_17 : decode prog_1_method_2_code 17 = .ok (.ldc 54, 2) := by decide +kernel
theorem d_E_block_19 : decode prog_1_method_2_code 19 = .ok (.invokespecial 56, 3) := by decide +kernel
theorem d_E_block_22 : decode prog_1_method_2_code 22 = .ok (.athrow, 1) := by decide +kernel
theorem d_E_block_23 : decode prog_1_method_2_code 23 = .ok (.aload_n 0, 1) := by decide +kernel
theorem d_E_block_24 : decode prog_1_method_2_code 24 = .ok (.getfield 12, 3) := by decide +kernel
theorem d_E_block_27 : decode prog_1_method_2_code 27 = .ok (.iload_n 1, 1) := by decide +kernel
theorem d_E_block_28 : decode prog_1_method_2_code 28 = .ok (.iload_n 2, 1) := by decide +kernel
theorem d_E_block_29 : decode prog_1_method_2_code 29 = .ok (.invokevirtual 59, 3) := by decide +kernel
theorem d_E_block_32 : decode prog_1_method_2_code 32 = .ok (.ireturn, 1) := by decide +kernel
theorem d_E_channel_0 : decode prog_1_method_3_code 0 = .ok (.aload_n 0, 1) := by decide +kernel
theorem d_E_channel_1 : decode prog_1_method_3_code 1 = .ok (.invokevirtual 49, 3) := by decide +kernel
theorem d_E_channel_4 : decode prog_1_method_3_code 4 = .ok (.aload_n 0, 1) := by decide +kernel
theorem d_E_channel_5 : decode prog_1_method_3_code 5 = .ok (.getfield 12, 3) := by decide +kernel
theorem d_E_channel_8 : decode prog_1_method_3_code 8 = .ok (.getfield 63, 3) := by decide +kernel
theorem d_E_channel_11 : decode prog_1_method_3_code 11 = .ok (.iload_n 1, 1) := by decide +kernel
theorem d_E_channel_12 : decode prog_1_method_3_code 12 = .ok (.invokestatic 67, 3) := by decide +kernel
theorem d_E_channel_15 : decode prog_1_method_3_code 15 = .ok (.aload_n 0, 1) := by decide +kernel
theorem d_E_channel_16 : decode prog_1_method_3_code 16 = .ok (.getfield 12, 3) := by decide +kernel
theorem d_E_channel_19 : decode prog_1_method_3_code 19 = .ok (.getfield 63, 3) := by decide +kernel
theorem d_E_channel_22 : decode prog_1_method_3_code 22 = .ok (.iload_n 2, 1) := by decide +kernel
theorem d_E_channel_23 : decode prog_1_method_3_code 23 = .ok (.invokestatic 67, 3) := by decide +kernel
theorem d_E_channel_26 : decode prog_1_method_3_code 26 = .ok (.aload_n 0, 1) := by decide +kernel
theorem d_E_channel_27 : decode prog_1_method_3_code 27 = .ok (.getfield 12, 3) := by decide +kernel
theorem d_E_channel_30 : decode prog_1_method_3_code 30 = .ok (.iload_n 1, 1) := by decide +kernel
theorem d_E_channel_31 : decode prog_1_method_3_code 31 = .ok (.iload_n 2, 1) := by decide +kernel
theorem d_E_channel_32 : decode prog_1_method_3_code 32 = .ok (.iload_n 3, 1) := by decide +kernel
theorem d_E_channel_33 : decode prog_1_method_3_code 33 = .ok (.invokevirtual 71, 3) := by decide +kernel
theorem d_E_channel_36 : decode prog_1_method_3_code 36 = .ok (.ireturn, 1) := by decide +kernel
theorem d_E_input_0 : decode prog_1_method_4_code 0 = .ok (.aload_n 0, 1) := by decide +kernel
theorem d_E_input_1 : decode prog_1_method_4_code 1 = .ok (.invokevirtual 49, 3) := by decide +kernel
theorem d_E_input_4 : decode prog_1_method_4_code 4 = .ok (.aload_n 0, 1) := by decide +kernel
theorem d_E_input_5 : decode prog_1_method_4_code 5 = .ok (.getfield 12, 3) := by decide +kernel
theorem d_E_input_8 : decode prog_1_method_4_code 8 = .ok (.getfield 63, 3) := by decide +kernel
theorem d_E_input_11 : decode prog_1_method_4_code 11 = .ok (.iload_n 1, 1) := by decide +kernel
theorem d_E_input_12 : decode prog_1_method_4_code 12 = .ok (.invokestatic 67, 3) := by decide +kernel
theorem d_E_input_15 : decode prog_1_method_4_code 15 = .ok (.aload_n 0, 1) := by decide +kernel
theorem d_E_input_16 : decode prog_1_method_4_code 16 = .ok (.getfield 12, 3) := by decide +kernel
theorem d_E_input_19 : decode prog_1_method_4_code 19 = .ok (.iload_n 1, 1) := by decide +kernel
theorem d_E_input_20 : decode prog_1_method_4_code 20 = .ok (.invokevirtual 75, 3) := by decide +kernel
theorem d_E_input_23 : decode prog_1_method_4_code 23 = .ok (.ireturn, 1) := by decide +kernel
theorem d_E_output_0 : decode prog_1_method_5_code 0 = .ok (.aload_n 0, 1) := by decide +kernel
theorem d_E_output_1 : decode prog_1_method_5_code 1 = .ok (.invokevirtual 49, 3) := by decide +kernel
theorem d_E_output_4 : decode prog_1_method_5_code 4 = .ok (.aload_n 0, 1) := by decide +kernel
theorem d_E_output_5 : decode prog_1_method_5_code 5 = .ok (.getfield 12, 3) := by decide +kernel
theorem d_E_output_8 : decode prog_1_method_5_code 8 = .ok (.getfield 63, 3) := by decide +kernel
theorem d_E_output_11 : decode prog_1_method_5_code 11 = .ok (.iload_n 1, 1) := by decide +kernel
theorem d_E_output_12 : decode prog_1_method_5_code 12 = .ok (.invokestatic 67, 3) := by decide +kernel
theorem d_E_output_15 : decode prog_1_method_5_code 15 = .ok (.aload_n 0, 1) := by decide +kernel
theorem d_E_output_16 : decode prog_1_method_5_code 16 = .ok (.getfield 12, 3) := by decide +kernel
theorem d_E_output_19 : decode prog_1_method_5_code 19 = .ok (.iload_n 1, 1) := by decide +kernel
theorem d_E_output_20 : decode prog_1_method_5_code 20 = .ok (.invokevirtual 79, 3) := by decide +kernel
theorem d_E_output_23 : decode prog_1_method_5_code 23 = .ok (.ireturn, 1) := by decide +kernel
theorem d_E_buffers_0 : decode prog_1_method_6_code 0 = .ok (.aload_n 0, 1) := by decide +kernel
theorem d_E_buffers_1 : decode prog_1_method_6_code 1 = .ok (.invokevirtual 49, 3) := by decide +kernel
theorem d_E_buffers_4 : decode prog_1_method_6_code 4 = .ok (.aload_n 0, 1) := by decide +kernel
theorem d_E_buffers_5 : decode prog_1_method_6_code 5 = .ok (.getfield 12, 3) := by decide +kernel
theorem d_E_buffers_8 : decode prog_1_method_6_code 8 = .ok (.getfield 82, 3) := by decide +kernel
theorem d_E_buffers_11 : decode prog_1_method_6_code 11 = .ok (.iload_n 1, 1) := by decide +kernel
theorem d_E_buffers_12 : decode prog_1_method_6_code 12 = .ok (.invokestatic 67, 3) := by decide +kernel
theorem d_E_buffers_15 : decode prog_1_method_6_code 15 = .ok (.iconst 4, 1) := by decide +kernel
theorem d_E_buffers_16 : decode prog_1_method_6_code 16 = .ok (.iload_n 2, 1) := by decide +kernel
theorem d_E_buffers_17 : decode prog_1_method_6_code 17 = .ok (.invokestatic 67, 3) := by decide +kernel
theorem d_E_buffers_20 : decode prog_1_method_6_code 20 = .ok (.aload_n 0, 1) := by decide +kernel
theorem d_E_buffers_21 : decode prog_1_method_6_code 21 = .ok (.getfield 12, 3) := by decide +kernel
theorem d_E_buffers_24 : decode prog_1_method_6_code 24 = .ok (.getfield 85, 3) := by decide +kernel
theorem d_E_buffers_27 : decode prog_1_method_6_code 27 = .ok (.iload_n 1, 1) := by decide +kernel
theorem d_E_buffers_28 : decode prog_1_method_6_code 28 = .ok (.iaload, 1) := by decide +kernel
theorem d_E_buffers_29 : decode prog_1_method_6_code 29 = .ok (.istore_n 3, 1) := by decide +kernel
theorem d_E_buffers_30 : decode prog_1_method_6_code 30 = .ok (.aload_n 0, 1) := by decide +kernel
theorem d_E_buffers_31 : decode prog_1_method_6_code 31 = .ok (.getfield 12, 3) := by decide +kernel
theorem d_E_buffers_34 : decode prog_1_method_6_code 34 = .ok (.getfield 85, 3) := by decide +kernel
theorem d_E_buffers_37 : decode prog_1_method_6_code 37 = .ok (.iload_n 1, 1) := by decide +kernel
theorem d_E_buffers_38 : decode prog_1_method_6_code 38 = .ok (.iload_n 2, 1) := by decide +kernel
theorem d_E_buffers_39 : decode prog_1_method_6_code 39 = .ok (.iastore, 1) := by decide +kernel
theorem d_E_buffers_40 : decode prog_1_method_6_code 40 = .ok (.iload_n 3, 1) := by decide +kernel
theorem d_E_buffers_41 : decode prog_1_method_6_code 41 = .ok (.ireturn, 1) := by decide +kernel
theorem d_E_build_0 : decode prog_1_method_7_code 0 = .ok (.aload_n 0, 1) := by decide +kernel
theorem d_E_build_1 : decode prog_1_method_7_code 1 = .ok (.invokevirtual 49, 3) := by decide +kernel
theorem d_E_build_4 : decode prog_1_method_7_code 4 = .ok (.aload_n 0, 1) := by decide +kernel
theorem d_E_build_5 : decode prog_1_method_7_code 5 = .ok (.iconst 1, 1) := by decide +kernel
theorem d_E_build_6 : decode prog_1_method_7_code 6 = .ok (.putfield 45, 3) := by decide +kernel
theorem d_E_build_9 : decode prog_1_method_7_code 9 = .ok (.aload_n 0, 1) := by decide +kernel
theorem d_E_build_10 : decode prog_1_method_7_code 10 = .ok (.getfield 41, 3) := by decide +kernel
theorem d_E_build_13 : decode prog_1_method_7_code 13 = .ok (.invokevirtual 89, 3) := by decide +kernel
theorem d_E_build_16 : decode prog_1_method_7_code 16 = .ok (.aload_n 0, 1) := by decide +kernel
theorem d_E_build_17 : decode prog_1_method_7_code 17 = .ok (.invokevirtual 92, 3) := by decide +kernel
theorem d_E_build_20 : decode prog_1_method_7_code 20 = .ok (.aload_n 0, 1) := by decide +kernel
theorem d_E_build_21 : decode prog_1_method_7_code 21 = .ok (.getfield 12, 3) := by decide +kernel
theorem d_E_build_24 : decode prog_1_method_7_code 24 = .ok (.invokevirtual 95, 3) := by decide +kernel
theorem d_E_build_27 : decode prog_1_method_7_code 27 = .ok (.ireturn, 1) := by decide +kernel
theorem d_E_clear_0 : decode prog_1_method_8_code 0 = .ok (.aload_n 0, 1) := by decide +kernel
theorem d_E_clear_1 : decode prog_1_method_8_code 1 = .ok (.getfield 12, 3) := by decide +kernel
theorem d_E_clear_4 : decode prog_1_method_8_code 4 = .ok (.getfield 63, 3) := by decide +kernel
theorem d_E_clear_7 : decode prog_1_method_8_code 7 = .ok (.istore_n 1, 1) := by decide +kernel
theorem d_E_clear_8 : decode prog_1_method_8_code 8 = .ok (.aload_n 0, 1) := by decide +kernel
theorem d_E_clear_9 : decode prog_1_method_8_code 9 = .ok (.getfield 12, 3) := by decide +kernel
theorem d_E_clear_12 : decode prog_1_method_8_code 12 = .ok (.invokevirtual 99, 3) := by decide +kernel
theorem d_E_clear_15 : decode prog_1_method_8_code 15 = .ok (.aload_n 0, 1) := by decide +kernel
theorem d_E_clear_16 : decode prog_1_method_8_code 16 = .ok (.iconst 0, 1) := by decide +kernel
theorem d_E_clear_17 : decode prog_1_method_8_code 17 = .ok (.putfield 45, 3) := by decide +kernel
theorem d_E_clear_20 : decode prog_1_method_8_code 20 = .ok (.iload_n 1, 1) := by decide +kernel
theorem d_E_clear_21 : decode prog_1_method_8_code 21 = .ok (.ireturn, 1) := by decide +kernel
theorem d_E_restart_0 : decode prog_1_method_9_code 0 = .ok (.aload_n 0, 1) := by decide +kernel
theorem d_E_restart_1 : decode prog_1_method_9_code 1 = .ok (.invokevirtual 102, 3) := by decide +kernel
theorem d_E_restart_4 : decode prog_1_method_9_code 4 = .ok (.aload_n 0, 1) := by decide +kernel
theorem d_E_restart_5 : decode prog_1_method_9_code 5 = .ok (.invokevirtual 92, 3) := by decide +kernel
theorem d_E_restart_8 : decode prog_1_method_9_code 8 = .ok (.return_, 1) := by decide +kernel
theorem d_E_offer_0 : decode prog_1_method_10_code 0 = .ok (.aload_n 0, 1) := by decide +kernel
theorem d_E_offer_1 : decode prog_1_method_10_code 1 = .ok (.invokevirtual 102, 3) := by decide +kernel
theorem d_E_offer_4 : decode prog_1_method_10_code 4 = .ok (.aload_n 0, 1) := by decide +kernel
theorem d_E_offer_5 : decode prog_1_method_10_code 5 = .ok (.getfield 12, 3) := by decide +kernel
theorem d_E_offer_8 : decode prog_1_method_10_code 8 = .ok (.getfield 105, 3) := by decide +kernel
theorem d_E_offer_11 : decode prog_1_method_10_code 11 = .ok (.iload_n 1, 1) := by decide +kernel
theorem d_E_offer_12 : decode prog_1_method_10_code 12 = .ok (.invokestatic 67, 3) := by decide +kernel
theorem d_E_offer_15 : decode prog_1_method_10_code 15 = .ok (.aload_n 0, 1) := by decide +kernel
theorem d_E_offer_16 : decode prog_1_method_10_code 16 = .ok (.getfield 21, 3) := by decide +kernel
theorem d_E_offer_19 : decode prog_1_method_10_code 19 = .ok (.iload_n 1, 1) := by decide +kernel
theorem d_E_offer_20 : decode prog_1_method_10_code 20 = .ok (.iload_n 2, 1) := by decide +kernel
theorem d_E_offer_21 : decode prog_1_method_10_code 21 = .ok (.invokevirtual 108, 3) := by decide +kernel
theorem d_E_offer_24 : decode prog_1_method_10_code 24 = .ok (.ireturn, 1) := by decide +kernel
theorem d_E_tick_0 : decode prog_1_method_11_code 0 = .ok (.aload_n 0, 1) := by decide +kernel
theorem d_E_tick_1 : decode prog_1_method_11_code 1 = .ok (.invokevirtual 102, 3) := by decide +kernel
theorem d_E_tick_4 : decode prog_1_method_11_code 4 = .ok (.aload_n 0, 1) := by decide +kernel
theorem d_E_tick_5 : decode prog_1_method_11_code 5 = .ok (.getfield 21, 3) := by decide +kernel
theorem d_E_tick_8 : decode prog_1_method_11_code 8 = .ok (.getfield 112, 3) := by decide +kernel
theorem d_E_tick_11 : decode prog_1_method_11_code 11 = .ok (.sipush (1000), 3) := by decide +kernel
theorem d_E_tick_14 : decode prog_1_method_11_code 14 = .ok (.if_icmp .lt (5), 3) := by decide +kernel
theorem d_E_tick_17 : decode prog_1_method_11_code 17 = .ok (.iconst (-1), 1) := by decide +kernel
theorem d_E_tick_18 : decode prog_1_method_11_code 18 = .ok (.ireturn, 1) := by decide +kernel
theorem d_E_tick_19 : decode prog_1_method_11_code 19 = .ok (.aload_n 0, 1) := by decide +kernel
theorem d_E_tick_20 : decode prog_1_method_11_code 20 = .ok (.getfield 21, 3) := by decide +kernel
theorem d_E_tick_23 : decode prog_1_method_11_code 23 = .ok (.iload_n 1, 1) := by decide +kernel
theorem d_E_tick_24 : decode prog_1_method_11_code 24 = .ok (.invokevirtual 115, 3) := by decide +kernel
theorem d_E_tick_27 : decode prog_1_method_11_code 27 = .ok (.ireturn, 1) := by decide +kernel
theorem d_E_run_0 : decode prog_1_method_12_code 0 = .ok (.aload_n 0, 1) := by decide +kernel
theorem d_E_run_1 : decode prog_1_method_12_code 1 = .ok (.invokevirtual 102, 3) := by decide +kernel
theorem d_E_run_4 : decode prog_1_method_12_code 4 = .ok (.sipush (1001), 3) := by decide +kernel
theorem d_E_run_7 : decode prog_1_method_12_code 7 = .ok (.iload_n 1, 1) := by decide +kernel
theorem d_E_run_8 : decode prog_1_method_12_code 8 = .ok (.invokestatic 67, 3) := by decide +kernel
theorem d_E_run_11 : decode prog_1_method_12_code 11 = .ok (.iload_n 1, 1) := by decide +kernel
theorem d_E_run_12 : decode prog_1_method_12_code 12 = .ok (.sipush (1000), 3) := by decide +kernel
theorem d_E_run_15 : decode prog_1_method_12_code 15 = .ok (.aload_n 0, 1) := by decide +kernel
theorem d_E_run_16 : decode prog_1_method_12_code 16 = .ok (.getfield 21, 3) := by decide +kernel
theorem d_E_run_19 : decode prog_1_method_12_code 19 = .ok (.getfield 112, 3) := by decide +kernel
theorem d_E_run_22 : decode prog_1_method_12_code 22 = .ok (.isub, 1) := by decide +kernel
theorem d_E_run_23 : decode prog_1_method_12_code 23 = .ok (.invokestatic 118, 3) := by decide +kernel
theorem d_E_run_26 : decode prog_1_method_12_code 26 = .ok (.istore_n 3, 1) := by decide +kernel
theorem d_E_run_27 : decode prog_1_method_12_code 27 = .ok (.iconst 0, 1) := by decide +kernel
theorem d_E_run_28 : decode prog_1_method_12_code 28 = .ok (.istore 4, 2) := by decide +kernel
theorem d_E_run_30 : decode prog_1_method_12_code 30 = .ok (.iload 4, 2) := by decide +kernel
theorem d_E_run_32 : decode prog_1_method_12_code 32 = .ok (.iload_n 3, 1) := by decide +kernel
theorem d_E_run_33 : decode prog_1_method_12_code 33 = .ok (.if_icmp .ge (18), 3) := by decide +kernel
theorem d_E_run_36 : decode prog_1_method_12_code 36 = .ok (.aload_n 0, 1) := by decide +kernel
theorem d_E_run_37 : decode prog_1_method_12_code 37 = .ok (.getfield 21, 3) := by decide +kernel
theorem d_E_run_40 : decode prog_1_method_12_code 40 = .ok (.iload_n 2, 1) := by decide +kernel
theorem d_E_run_41 : decode prog_1_method_12_code 41 = .ok (.invokevirtual 115, 3) := by decide +kernel
theorem d_E_run_44 : decode prog_1_method_12_code 44 = .ok (.pop, 1) := by decide +kernel
theorem d_E_run_45 : decode prog_1_method_12_code 45 = .ok (.iinc 4 (1), 3) := by decide +kernel
theorem d_E_run_48 : decode prog_1_method_12_code 48 = .ok (.goto (-18), 3) := by decide +kernel
theorem d_E_run_51 : decode prog_1_method_12_code 51 = .ok (.iload_n 3, 1) := by decide +kernel
theorem d_E_run_52 : decode prog_1_method_12_code 52 = .ok (.ireturn, 1) := by decide +kernel
theorem d_E_ticks_0 : decode prog_1_method_13_code 0 = .ok (.aload_n 0, 1) := by decide +kernel
theorem d_E_ticks_1 : decode prog_1_method_13_code 1 = .ok (.invokevirtual 102, 3) := by decide +kernel
theorem d_E_ticks_4 : decode prog_1_method_13_code 4 = .ok (.aload_n 0, 1) := by decide +kernel
theorem d_E_ticks_5 : decode prog_1_method_13_code 5 = .ok (.getfield 21, 3) := by decide +kernel
theorem d_E_ticks_8 : decode prog_1_method_13_code 8 = .ok (.getfield 112, 3) := by decide +kernel
theorem d_E_ticks_11 : decode prog_1_method_13_code 11 = .ok (.ireturn, 1) := by decide +kernel
theorem d_E_turns_0 : decode prog_1_method_14_code 0 = .ok (.aload_n 0, 1) := by decide +kernel
theorem d_E_turns_1 : decode prog_1_method_14_code 1 = .ok (.invokevirtual 102, 3) := by decide +kernel
theorem d_E_turns_4 : decode prog_1_method_14_code 4 = .ok (.aload_n 0, 1) := by decide +kernel
theorem d_E_turns_5 : decode prog_1_method_14_code 5 = .ok (.getfield 12, 3) := by decide +kernel
theorem d_E_turns_8 : decode prog_1_method_14_code 8 = .ok (.getfield 63, 3) := by decide +kernel
theorem d_E_turns_11 : decode prog_1_method_14_code 11 = .ok (.iload_n 1, 1) := by decide +kernel
theorem d_E_turns_12 : decode prog_1_method_14_code 12 = .ok (.invokestatic 67, 3) := by decide +kernel
theorem d_E_turns_15 : decode prog_1_method_14_code 15 = .ok (.aload_n 0, 1) := by decide +kernel
theorem d_E_turns_16 : decode prog_1_method_14_code 16 = .ok (.getfield 21, 3) := by decide +kernel
theorem d_E_turns_19 : decode prog_1_method_14_code 19 = .ok (.getfield 123, 3) := by decide +kernel
theorem d_E_turns_22 : decode prog_1_method_14_code 22 = .ok (.iload_n 1, 1) := by decide +kernel
theorem d_E_turns_23 : decode prog_1_method_14_code 23 = .ok (.iaload, 1) := by decide +kernel
theorem d_E_turns_24 : decode prog_1_method_14_code 24 = .ok (.ireturn, 1) := by decide +kernel
theorem d_E_got_0 : decode prog_1_method_15_code 0 = .ok (.aload_n 0, 1) := by decide +kernel
theorem d_E_got_1 : decode prog_1_method_15_code 1 = .ok (.invokevirtual 102, 3) := by decide +kernel
theorem d_E_got_4 : decode prog_1_method_15_code 4 = .ok (.aload_n 0, 1) := by decide +kernel
theorem d_E_got_5 : decode prog_1_method_15_code 5 = .ok (.getfield 12, 3) := by decide +kernel
theorem d_E_got_8 : decode prog_1_method_15_code 8 = .ok (.getfield 63, 3) := by decide +kernel
theorem d_E_got_11 : decode prog_1_method_15_code 11 = .ok (.iload_n 1, 1) := by decide +kernel
theorem d_E_got_12 : decode prog_1_method_15_code 12 = .ok (.invokestatic 67, 3) := by decide +kernel
theorem d_E_got_15 : decode prog_1_method_15_code 15 = .ok (.aload_n 0, 1) := by decide +kernel
theorem d_E_got_16 : decode prog_1_method_15_code 16 = .ok (.getfield 21, 3) := by decide +kernel
theorem d_E_got_19 : decode prog_1_method_15_code 19 = .ok (.getfield 126, 3) := by decide +kernel
theorem d_E_got_22 : decode prog_1_method_15_code 22 = .ok (.iload_n 1, 1) := by decide +kernel
theorem d_E_got_23 : decode prog_1_method_15_code 23 = .ok (.iaload, 1) := by decide +kernel
theorem d_E_got_24 : decode prog_1_method_15_code 24 = .ok (.ireturn, 1) := by decide +kernel
theorem d_E_inside_0 : decode prog_1_method_16_code 0 = .ok (.aload_n 0, 1) := by decide +kernel
theorem d_E_inside_1 : decode prog_1_method_16_code 1 = .ok (.invokevirtual 102, 3) := by decide +kernel
theorem d_E_inside_4 : decode prog_1_method_16_code 4 = .ok (.aload_n 0, 1) := by decide +kernel
theorem d_E_inside_5 : decode prog_1_method_16_code 5 = .ok (.getfield 12, 3) := by decide +kernel
theorem d_E_inside_8 : decode prog_1_method_16_code 8 = .ok (.getfield 82, 3) := by decide +kernel
theorem d_E_inside_11 : decode prog_1_method_16_code 11 = .ok (.iload_n 1, 1) := by decide +kernel
theorem d_E_inside_12 : decode prog_1_method_16_code 12 = .ok (.invokestatic 67, 3) := by decide +kernel
theorem d_E_inside_15 : decode prog_1_method_16_code 15 = .ok (.aload_n 0, 1) := by decide +kernel
theorem d_E_inside_16 : decode prog_1_method_16_code 16 = .ok (.getfield 12, 3) := by decide +kernel
theorem d_E_inside_19 : decode prog_1_method_16_code 19 = .ok (.getfield 85, 3) := by decide +kernel
theorem d_E_inside_22 : decode prog_1_method_16_code 22 = .ok (.iload_n 1, 1) := by decide +kernel
theorem d_E_inside_23 : decode prog_1_method_16_code 23 = .ok (.iaload, 1) := by decide +kernel
theorem d_E_inside_24 : decode prog_1_method_16_code 24 = .ok (.iconst 1, 1) := by decide +kernel
theorem d_E_inside_25 : decode prog_1_method_16_code 25 = .ok (.iadd, 1) := by decide +kernel
theorem d_E_inside_26 : decode prog_1_method_16_code 26 = .ok (.iload_n 2, 1) := by decide +kernel
theorem d_E_inside_27 : decode prog_1_method_16_code 27 = .ok (.invokestatic 67, 3) := by decide +kernel
theorem d_E_inside_30 : decode prog_1_method_16_code 30 = .ok (.aload_n 0, 1) := by decide +kernel
theorem d_E_inside_31 : decode prog_1_method_16_code 31 = .ok (.getfield 21, 3) := by decide +kernel
theorem d_E_inside_34 : decode prog_1_method_16_code 34 = .ok (.getfield 129, 3) := by decide +kernel
theorem d_E_inside_37 : decode prog_1_method_16_code 37 = .ok (.iload_n 1, 1) := by decide +kernel
theorem d_E_inside_38 : decode prog_1_method_16_code 38 = .ok (.iconst 4, 1) := by decide +kernel
theorem d_E_inside_39 : decode prog_1_method_16_code 39 = .ok (.imul, 1) := by decide +kernel
theorem d_E_inside_40 : decode prog_1_method_16_code 40 = .ok (.iload_n 2, 1) := by decide +kernel
theorem d_E_inside_41 : decode prog_1_method_16_code 41 = .ok (.iadd, 1) := by decide +kernel
theorem d_E_inside_42 : decode prog_1_method_16_code 42 = .ok (.iaload, 1) := by decide +kernel
theorem d_E_inside_43 : decode prog_1_method_16_code 43 = .ok (.ireturn, 1) := by decide +kernel
theorem d_E_taken_0 : decode prog_1_method_17_code 0 = .ok (.aload_n 0, 1) := by decide +kernel
theorem d_E_taken_1 : decode prog_1_method_17_code 1 = .ok (.invokevirtual 102, 3) := by decide +kernel
theorem d_E_taken_4 : decode prog_1_method_17_code 4 = .ok (.aload_n 0, 1) := by decide +kernel
theorem d_E_taken_5 : decode prog_1_method_17_code 5 = .ok (.getfield 12, 3) := by decide +kernel
theorem d_E_taken_8 : decode prog_1_method_17_code 8 = .ok (.getfield 105, 3) := by decide +kernel
theorem d_E_taken_11 : decode prog_1_method_17_code 11 = .ok (.iload_n 1, 1) := by decide +kernel
theorem d_E_taken_12 : decode prog_1_method_17_code 12 = .ok (.invokestatic 67, 3) := by decide +kernel
theorem d_E_taken_15 : decode prog_1_method_17_code 15 = .ok (.aload_n 0, 1) := by decide +kernel
theorem d_E_taken_16 : decode prog_1_method_17_code 16 = .ok (.getfield 21, 3) := by decide +kernel
theorem d_E_taken_19 : decode prog_1_method_17_code 19 = .ok (.getfield 132, 3) := by decide +kernel
theorem d_E_taken_22 : decode prog_1_method_17_code 22 = .ok (.iload_n 1, 1) := by decide +kernel
theorem d_E_taken_23 : decode prog_1_method_17_code 23 = .ok (.iaload, 1) := by decide +kernel
theorem d_E_taken_24 : decode prog_1_method_17_code 24 = .ok (.ireturn, 1) := by decide +kernel
theorem d_E_given_0 : decode prog_1_method_18_code 0 = .ok (.aload_n 0, 1) := by decide +kernel
theorem d_E_given_1 : decode prog_1_method_18_code 1 = .ok (.invokevirtual 102, 3) := by decide +kernel
theorem d_E_given_4 : decode prog_1_method_18_code 4 = .ok (.aload_n 0, 1) := by decide +kernel
theorem d_E_given_5 : decode prog_1_method_18_code 5 = .ok (.getfield 12, 3) := by decide +kernel
theorem d_E_given_8 : decode prog_1_method_18_code 8 = .ok (.getfield 135, 3) := by decide +kernel
theorem d_E_given_11 : decode prog_1_method_18_code 11 = .ok (.iload_n 1, 1) := by decide +kernel
theorem d_E_given_12 : decode prog_1_method_18_code 12 = .ok (.invokestatic 67, 3) := by decide +kernel
theorem d_E_given_15 : decode prog_1_method_18_code 15 = .ok (.aload_n 0, 1) := by decide +kernel
theorem d_E_given_16 : decode prog_1_method_18_code 16 = .ok (.getfield 21, 3) := by decide +kernel
theorem d_E_given_19 : decode prog_1_method_18_code 19 = .ok (.getfield 138, 3) := by decide +kernel
theorem d_E_given_22 : decode prog_1_method_18_code 22 = .ok (.iload_n 1, 1) := by decide +kernel
theorem d_E_given_23 : decode prog_1_method_18_code 23 = .ok (.iaload, 1) := by decide +kernel
theorem d_E_given_24 : decode prog_1_method_18_code 24 = .ok (.ireturn, 1) := by decide +kernel
theorem d_E_value_0 : decode prog_1_method_19_code 0 = .ok (.aload_n 0, 1) := by decide +kernel
theorem d_E_value_1 : decode prog_1_method_19_code 1 = .ok (.invokevirtual 102, 3) := by decide +kernel
theorem d_E_value_4 : decode prog_1_method_19_code 4 = .ok (.aload_n 0, 1) := by decide +kernel
theorem d_E_value_5 : decode prog_1_method_19_code 5 = .ok (.getfield 12, 3) := by decide +kernel
theorem d_E_value_8 : decode prog_1_method_19_code 8 = .ok (.getfield 135, 3) := by decide +kernel
theorem d_E_value_11 : decode prog_1_method_19_code 11 = .ok (.iload_n 1, 1) := by decide +kernel
theorem d_E_value_12 : decode prog_1_method_19_code 12 = .ok (.invokestatic 67, 3) := by decide +kernel
theorem d_E_value_15 : decode prog_1_method_19_code 15 = .ok (.iload_n 2, 1) := by decide +kernel
theorem d_E_value_16 : decode prog_1_method_19_code 16 = .ok (.ifCond .lt (16), 3) := by decide +kernel
theorem d_E_value_19 : decode prog_1_method_19_code 19 = .ok (.iload_n 2, 1) := by decide +kernel
theorem d_E_value_20 : decode prog_1_method_19_code 20 = .ok (.aload_n 0, 1) := by decide +kernel
theorem d_E_value_21 : decode prog_1_method_19_code 21 = .ok (.getfield 21, 3) := by decide +kernel
theorem d_E_value_24 : decode prog_1_method_19_code 24 = .ok (.getfield 138, 3) := by decide +kernel
theorem d_E_value_27 : decode prog_1_method_19_code 27 = .ok (.iload_n 1, 1) := by decide +kernel
theorem d_E_value_28 : decode prog_1_method_19_code 28 = .ok (.iaload, 1) := by decide +kernel
theorem d_E_value_29 : decode prog_1_method_19_code 29 = .ok (.if_icmp .lt (13), 3) := by decide +kernel
theorem d_E_value_32 : decode prog_1_method_19_code 32 = .ok (.new 141, 3) := by decide +kernel
theorem d_E_value_35 : decode prog_1_method_19_code 35 = .ok (.dup, 1) := by decide +kernel
theorem d_E_value_36 : decode prog_1_method_19_code 36 = .ok (.ldc 143, 2) := by decide +kernel
theorem d_E_value_38 : decode prog_1_method_19_code 38 = .ok (.invokespecial 145, 3) := by decide +kernel
theorem d_E_value_41 : decode prog_1_method_19_code 41 = .ok (.athrow, 1) := by decide +kernel
theorem d_E_value_42 : decode prog_1_method_19_code 42 = .ok (.aload_n 0, 1) := by decide +kernel
theorem d_E_value_43 : decode prog_1_method_19_code 43 = .ok (.getfield 21, 3) := by decide +kernel
theorem d_E_value_46 : decode prog_1_method_19_code 46 = .ok (.getfield 146, 3) := by decide +kernel
theorem d_E_value_49 : decode prog_1_method_19_code 49 = .ok (.iload_n 1, 1) := by decide +kernel
theorem d_E_value_50 : decode prog_1_method_19_code 50 = .ok (.aaload, 1) := by decide +kernel
theorem d_E_value_51 : decode prog_1_method_19_code 51 = .ok (.iload_n 2, 1) := by decide +kernel
theorem d_E_value_52 : decode prog_1_method_19_code 52 = .ok (.laload, 1) := by decide +kernel
theorem d_E_value_53 : decode prog_1_method_19_code 53 = .ok (.lreturn, 1) := by decide +kernel
theorem d_E_byClock_0 : decode prog_1_method_20_code 0 = .ok (.aload_n 0, 1) := by decide +kernel
theorem d_E_byClock_1 : decode prog_1_method_20_code 1 = .ok (.invokevirtual 102, 3) := by decide +kernel
theorem d_E_byClock_4 : decode prog_1_method_20_code 4 = .ok (.aload_n 0, 1) := by decide +kernel
theorem d_E_byClock_5 : decode prog_1_method_20_code 5 = .ok (.getfield 12, 3) := by decide +kernel
theorem d_E_byClock_8 : decode prog_1_method_20_code 8 = .ok (.getfield 135, 3) := by decide +kernel
theorem d_E_byClock_11 : decode prog_1_method_20_code 11 = .ok (.iload_n 1, 1) := by decide +kernel
theorem d_E_byClock_12 : decode prog_1_method_20_code 12 = .ok (.invokestatic 67, 3) := by decide +kernel
theorem d_E_byClock_15 : decode prog_1_method_20_code 15 = .ok (.iload_n 2, 1) := by decide +kernel
theorem d_E_byClock_16 : decode prog_1_method_20_code 16 = .ok (.ifCond .lt (21), 3) := by decide +kernel
theorem d_E_byClock_19 : decode prog_1_method_20_code 19 = .ok (.iload_n 2, 1) := by decide +kernel
theorem d_E_byClock_20 : decode prog_1_method_20_code 20 = .ok (.sipush (1000), 3) := by decide +kernel
theorem d_E_byClock_23 : decode prog_1_method_20_code 23 = .ok (.if_icmp .ge (14), 3) := by decide +kernel
theorem d_E_byClock_26 : decode prog_1_method_20_code 26 = .ok (.iload_n 2, 1) := by decide +kernel
theorem d_E_byClock_27 : decode prog_1_method_20_code 27 = .ok (.aload_n 0, 1) := by decide +kernel
theorem d_E_byClock_28 : decode prog_1_method_20_code 28 = .ok (.getfield 21, 3) := by decide +kernel
theorem d_E_byClock_31 : decode prog_1_method_20_code 31 = .ok (.invokevirtual 150, 3) := by decide +kernel
theorem d_E_byClock_34 : decode prog_1_method_20_code 34 = .ok (.if_icmp .lt (13), 3) := by decide +kernel
theorem d_E_byClock_37 : decode prog_1_method_20_code 37 = .ok (.new 141, 3) := by decide +kernel
theorem d_E_byClock_40 : decode prog_1_method_20_code 40 = .ok (.dup, 1) := by decide +kernel
theorem d_E_byClock_41 : decode prog_1_method_20_code 41 = .ok (.ldc 153, 2) := by decide +kernel
theorem d_E_byClock_43 : decode prog_1_method_20_code 43 = .ok (.invokespecial 145, 3) := by decide +kernel
theorem d_E_byClock_46 : decode prog_1_method_20_code 46 = .ok (.athrow, 1) := by decide +kernel
theorem d_E_byClock_47 : decode prog_1_method_20_code 47 = .ok (.aload_n 0, 1) := by decide +kernel
theorem d_E_byClock_48 : decode prog_1_method_20_code 48 = .ok (.getfield 34, 3) := by decide +kernel
theorem d_E_byClock_51 : decode prog_1_method_20_code 51 = .ok (.iload_n 1, 1) := by decide +kernel
theorem d_E_byClock_52 : decode prog_1_method_20_code 52 = .ok (.iload_n 2, 1) := by decide +kernel
theorem d_E_byClock_53 : decode prog_1_method_20_code 53 = .ok (.invokevirtual 155, 3) := by decide +kernel
theorem d_E_byClock_56 : decode prog_1_method_20_code 56 = .ok (.ireturn, 1) := by decide +kernel
theorem d_E_rate_0 : decode prog_1_method_21_code 0 = .ok (.aload_n 0, 1) := by decide +kernel
theorem d_E_rate_1 : decode prog_1_method_21_code 1 = .ok (.invokevirtual 102, 3) := by decide +kernel
theorem d_E_rate_4 : decode prog_1_method_21_code 4 = .ok (.iconst 2, 1) := by decide +kernel
theorem d_E_rate_5 : decode prog_1_method_21_code 5 = .ok (.iload_n 1, 1) := by decide +kernel
theorem d_E_rate_6 : decode prog_1_method_21_code 6 = .ok (.invokestatic 67, 3) := by decide +kernel
theorem d_E_rate_9 : decode prog_1_method_21_code 9 = .ok (.aload_n 0, 1) := by decide +kernel
theorem d_E_rate_10 : decode prog_1_method_21_code 10 = .ok (.getfield 41, 3) := by decide +kernel
theorem d_E_rate_13 : decode prog_1_method_21_code 13 = .ok (.invokevirtual 158, 3) := by decide +kernel
theorem d_E_rate_16 : decode prog_1_method_21_code 16 = .ok (.iload_n 1, 1) := by decide +kernel
theorem d_E_rate_17 : decode prog_1_method_21_code 17 = .ok (.ifCond .ne (13), 3) := by decide +kernel
theorem d_E_rate_20 : decode prog_1_method_21_code 20 = .ok (.aload_n 0, 1) := by decide +kernel
theorem d_E_rate_21 : decode prog_1_method_21_code 21 = .ok (.getfield 41, 3) := by decide +kernel
theorem d_E_rate_24 : decode prog_1_method_21_code 24 = .ok (.getfield 161, 3) := by decide +kernel
theorem d_E_rate_27 : decode prog_1_method_21_code 27 = .ok (.goto (10), 3) := by decide +kernel
theorem d_E_rate_30 : decode prog_1_method_21_code 30 = .ok (.aload_n 0, 1) := by decide +kernel
theorem d_E_rate_31 : decode prog_1_method_21_code 31 = .ok (.getfield 41, 3) := by decide +kernel
theorem d_E_rate_34 : decode prog_1_method_21_code 34 = .ok (.getfield 164, 3) := by decide +kernel
theorem d_E_rate_37 : decode prog_1_method_21_code 37 = .ok (.ireturn, 1) := by decide +kernel
theorem d_E_standAtStart_0 : decode prog_1_method_22_code 0 = .ok (.aload_n 0, 1) := by decide +kernel
theorem d_E_standAtStart_1 : decode prog_1_method_22_code 1 = .ok (.getfield 21, 3) := by decide +kernel
theorem d_E_standAtStart_4 : decode prog_1_method_22_code 4 = .ok (.invokevirtual 167, 3) := by decide +kernel
theorem d_E_standAtStart_7 : decode prog_1_method_22_code 7 = .ok (.aload_n 0, 1) := by decide +kernel
theorem d_E_standAtStart_8 : decode prog_1_method_22_code 8 = .ok (.getfield 34, 3) := by decide +kernel
theorem d_E_standAtStart_11 : decode prog_1_method_22_code 11 = .ok (.invokevirtual 170, 3) := by decide +kernel
theorem d_E_standAtStart_14 : decode prog_1_method_22_code 14 = .ok (.return_, 1) := by decide +kernel
theorem d_E_mustBeBuilt_0 : decode prog_1_method_23_code 0 = .ok (.aload_n 0, 1) := by decide +kernel
theorem d_E_mustBeBuilt_1 : decode prog_1_method_23_code 1 = .ok (.getfield 45, 3) := by decide +kernel
theorem d_E_mustBeBuilt_4 : decode prog_1_method_23_code 4 = .ok (.ifCond .ne (13), 3) := by decide +kernel
theorem d_E_mustBeBuilt_7 : decode prog_1_method_23_code 7 = .ok (.new 171, 3) := by decide +kernel
theorem d_E_mustBeBuilt_10 : decode prog_1_method_23_code 10 = .ok (.dup, 1) := by decide +kernel
theorem d_E_mustBeBuilt_11 : decode prog_1_method_23_code 11 = .ok (.ldc 173, 2) := by decide +kernel
theorem d_E_mustBeBuilt_13 : decode prog_1_method_23_code 13 = .ok (.invokespecial 175, 3) := by decide +kernel
theorem d_E_mustBeBuilt_16 : decode prog_1_method_23_code 16 = .ok (.athrow, 1) := by decide +kernel
theorem d_E_mustBeBuilt_17 : decode prog_1_method_23_code 17 = .ok (.return_, 1) := by decide +kernel
theorem d_E_mustNotBeBuilt_0 : decode prog_1_method_24_code 0 = .ok (.aload_n 0, 1) := by decide +kernel
theorem d_E_mustNotBeBuilt_1 : decode prog_1_method_24_code 1 = .ok (.getfield 45, 3) := by decide +kernel
theorem d_E_mustNotBeBuilt_4 : decode prog_1_method_24_code 4 = .ok (.ifCond .eq (13), 3) := by decide +kernel
theorem d_E_mustNotBeBuilt_7 : decode prog_1_method_24_code 7 = .ok (.new 171, 3) := by decide +kernel
theorem d_E_mustNotBeBuilt_10 : decode prog_1_method_24_code 10 = .ok (.dup, 1) := by decide +kernel
theorem d_E_mustNotBeBuilt_11 : decode prog_1_method_24_code 11 = .ok (.ldc 176, 2) := by decide +kernel
theorem d_E_mustNotBeBuilt_13 : decode prog_1_method_24_code 13 = .ok (.invokespecial 175, 3) := by decide +kernel
theorem d_E_mustNotBeBuilt_16 : decode prog_1_method_24_code 16 = .ok (.athrow, 1) := by decide +kernel
theorem d_E_mustNotBeBuilt_17 : decode prog_1_method_24_code 17 = .ok (.return_, 1) := by decide +kernel
theorem d_E_mustBeOneOf_0 : decode prog_1_method_25_code 0 = .ok (.iload_n 1, 1) := by decide +kernel
theorem d_E_mustBeOneOf_1 : decode prog_1_method_25_code 1 = .ok (.ifCond .lt (8), 3) := by decide +kernel
theorem d_E_mustBeOneOf_4 : decode prog_1_method_25_code 4 = .ok (.iload_n 1, 1) := by decide +kernel
theorem d_E_mustBeOneOf_5 : decode prog_1_method_25_code 5 = .ok (.iload_n 0, 1) := by decide +kernel
theorem d_E_mustBeOneOf_6 : decode prog_1_method_25_code 6 = .ok (.if_icmp .lt (13), 3) := by decide +kernel
theorem d_E_mustBeOneOf_9 : decode prog_1_method_25_code 9 = .ok (.new 52, 3) := by decide +kernel
theorem d_E_mustBeOneOf_12 : decode prog_1_method_25_code 12 = .ok (.dup, 1) := by decide +kernel
theorem d_E_mustBeOneOf_13 : decode prog_1_method_25_code 13 = .ok (.ldc 178, 2) := by decide +kernel
theorem d_E_mustBeOneOf_15 : decode prog_1_method_25_code 15 = .ok (.invokespecial 56, 3) := by decide +kernel
theorem d_E_mustBeOneOf_18 : decode prog_1_method_25_code 18 = .ok (.athrow, 1) := by decide +kernel
theorem d_E_mustBeOneOf_19 : decode prog_1_method_25_code 19 = .ok (.return_, 1) := by decide +kernel
