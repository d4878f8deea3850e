theorem d_L_block_0 : decode method_3_code 0 = .ok (.aload_n 3, 1) := by decide +kernel
theorem d_L_block_1 : decode method_3_code 1 = .ok (.iconst 0, 1) := by decide +kernel
theorem d_L_block_2 : decode method_3_code 2 = .ok (.aload_n 0, 1) := by decide +kernel
theorem d_L_block_3 : decode method_3_code 3 = .ok (.iload_n 1, 1) := by decide +kernel
theorem d_L_block_4 : decode method_3_code 4 = .ok (.iload_n 2, 1) := by decide +kernel
theorem d_L_block_5 : decode method_3_code 5 = .ok (.invokevirtual 7, 3) := by decide +kernel
theorem d_L_block_8 : decode method_3_code 8 = .ok (.i2l, 1) := by decide +kernel
theorem d_L_block_9 : decode method_3_code 9 = .ok (.lastore, 1) := by decide +kernel
theorem d_L_block_10 : decode method_3_code 10 = .ok (.goto (11), 3) := by decide +kernel
theorem d_L_block_13 : decode method_3_code 13 = .ok (.astore 4, 2) := by decide +kernel
theorem d_L_block_15 : decode method_3_code 15 = .ok (.iconst 1, 1) := by decide +kernel
theorem d_L_block_16 : decode method_3_code 16 = .ok (.ireturn, 1) := by decide +kernel
theorem d_L_block_17 : decode method_3_code 17 = .ok (.astore 4, 2) := by decide +kernel
theorem d_L_block_19 : decode method_3_code 19 = .ok (.iconst 2, 1) := by decide +kernel
theorem d_L_block_20 : decode method_3_code 20 = .ok (.ireturn, 1) := by decide +kernel
theorem d_L_block_21 : decode method_3_code 21 = .ok (.iconst 0, 1) := by decide +kernel
theorem d_L_block_22 : decode method_3_code 22 = .ok (.ireturn, 1) := by decide +kernel
theorem d_L_channel_0 : decode method_4_code 0 = .ok (.aload 4, 2) := by decide +kernel
theorem d_L_channel_2 : decode method_4_code 2 = .ok (.iconst 0, 1) := by decide +kernel
theorem d_L_channel_3 : decode method_4_code 3 = .ok (.aload_n 0, 1) := by decide +kernel
theorem d_L_channel_4 : decode method_4_code 4 = .ok (.iload_n 1, 1) := by decide +kernel
theorem d_L_channel_5 : decode method_4_code 5 = .ok (.iload_n 2, 1) := by decide +kernel
theorem d_L_channel_6 : decode method_4_code 6 = .ok (.iload_n 3, 1) := by decide +kernel
theorem d_L_channel_7 : decode method_4_code 7 = .ok (.invokevirtual 17, 3) := by decide +kernel
theorem d_L_channel_10 : decode method_4_code 10 = .ok (.i2l, 1) := by decide +kernel
theorem d_L_channel_11 : decode method_4_code 11 = .ok (.lastore, 1) := by decide +kernel
theorem d_L_channel_12 : decode method_4_code 12 = .ok (.goto (11), 3) := by decide +kernel
theorem d_L_channel_15 : decode method_4_code 15 = .ok (.astore 5, 2) := by decide +kernel
theorem d_L_channel_17 : decode method_4_code 17 = .ok (.iconst 1, 1) := by decide +kernel
theorem d_L_channel_18 : decode method_4_code 18 = .ok (.ireturn, 1) := by decide +kernel
theorem d_L_channel_19 : decode method_4_code 19 = .ok (.astore 5, 2) := by decide +kernel
theorem d_L_channel_21 : decode method_4_code 21 = .ok (.iconst 2, 1) := by decide +kernel
theorem d_L_channel_22 : decode method_4_code 22 = .ok (.ireturn, 1) := by decide +kernel
theorem d_L_channel_23 : decode method_4_code 23 = .ok (.iconst 0, 1) := by decide +kernel
theorem d_L_channel_24 : decode method_4_code 24 = .ok (.ireturn, 1) := by decide +kernel
theorem d_L_input_0 : decode method_5_code 0 = .ok (.aload_n 2, 1) := by decide +kernel
theorem d_L_input_1 : decode method_5_code 1 = .ok (.iconst 0, 1) := by decide +kernel
theorem d_L_input_2 : decode method_5_code 2 = .ok (.aload_n 0, 1) := by decide +kernel
theorem d_L_input_3 : decode method_5_code 3 = .ok (.iload_n 1, 1) := by decide +kernel
theorem d_L_input_4 : decode method_5_code 4 = .ok (.invokevirtual 21, 3) := by decide +kernel
theorem d_L_input_7 : decode method_5_code 7 = .ok (.i2l, 1) := by decide +kernel
theorem d_L_input_8 : decode method_5_code 8 = .ok (.lastore, 1) := by decide +kernel
theorem d_L_input_9 : decode method_5_code 9 = .ok (.goto (9), 3) := by decide +kernel
theorem d_L_input_12 : decode method_5_code 12 = .ok (.astore_n 3, 1) := by decide +kernel
theorem d_L_input_13 : decode method_5_code 13 = .ok (.iconst 1, 1) := by decide +kernel
theorem d_L_input_14 : decode method_5_code 14 = .ok (.ireturn, 1) := by decide +kernel
theorem d_L_input_15 : decode method_5_code 15 = .ok (.astore_n 3, 1) := by decide +kernel
theorem d_L_input_16 : decode method_5_code 16 = .ok (.iconst 2, 1) := by decide +kernel
theorem d_L_input_17 : decode method_5_code 17 = .ok (.ireturn, 1) := by decide +kernel
theorem d_L_input_18 : decode method_5_code 18 = .ok (.iconst 0, 1) := by decide +kernel
theorem d_L_input_19 : decode method_5_code 19 = .ok (.ireturn, 1) := by decide +kernel
theorem d_L_output_0 : decode method_6_code 0 = .ok (.aload_n 2, 1) := by decide +kernel
theorem d_L_output_1 : decode method_6_code 1 = .ok (.iconst 0, 1) := by decide +kernel
theorem d_L_output_2 : decode method_6_code 2 = .ok (.aload_n 0, 1) := by decide +kernel
theorem d_L_output_3 : decode method_6_code 3 = .ok (.iload_n 1, 1) := by decide +kernel
theorem d_L_output_4 : decode method_6_code 4 = .ok (.invokevirtual 25, 3) := by decide +kernel
theorem d_L_output_7 : decode method_6_code 7 = .ok (.i2l, 1) := by decide +kernel
theorem d_L_output_8 : decode method_6_code 8 = .ok (.lastore, 1) := by decide +kernel
theorem d_L_output_9 : decode method_6_code 9 = .ok (.goto (9), 3) := by decide +kernel
theorem d_L_output_12 : decode method_6_code 12 = .ok (.astore_n 3, 1) := by decide +kernel
theorem d_L_output_13 : decode method_6_code 13 = .ok (.iconst 1, 1) := by decide +kernel
theorem d_L_output_14 : decode method_6_code 14 = .ok (.ireturn, 1) := by decide +kernel
theorem d_L_output_15 : decode method_6_code 15 = .ok (.astore_n 3, 1) := by decide +kernel
theorem d_L_output_16 : decode method_6_code 16 = .ok (.iconst 2, 1) := by decide +kernel
theorem d_L_output_17 : decode method_6_code 17 = .ok (.ireturn, 1) := by decide +kernel
theorem d_L_output_18 : decode method_6_code 18 = .ok (.iconst 0, 1) := by decide +kernel
theorem d_L_output_19 : decode method_6_code 19 = .ok (.ireturn, 1) := by decide +kernel
theorem d_L_buffers_0 : decode method_7_code 0 = .ok (.aload_n 3, 1) := by decide +kernel
theorem d_L_buffers_1 : decode method_7_code 1 = .ok (.iconst 0, 1) := by decide +kernel
theorem d_L_buffers_2 : decode method_7_code 2 = .ok (.aload_n 0, 1) := by decide +kernel
theorem d_L_buffers_3 : decode method_7_code 3 = .ok (.iload_n 1, 1) := by decide +kernel
theorem d_L_buffers_4 : decode method_7_code 4 = .ok (.iload_n 2, 1) := by decide +kernel
theorem d_L_buffers_5 : decode method_7_code 5 = .ok (.invokevirtual 28, 3) := by decide +kernel
theorem d_L_buffers_8 : decode method_7_code 8 = .ok (.i2l, 1) := by decide +kernel
theorem d_L_buffers_9 : decode method_7_code 9 = .ok (.lastore, 1) := by decide +kernel
theorem d_L_buffers_10 : decode method_7_code 10 = .ok (.goto (11), 3) := by decide +kernel
theorem d_L_buffers_13 : decode method_7_code 13 = .ok (.astore 4, 2) := by decide +kernel
theorem d_L_buffers_15 : decode method_7_code 15 = .ok (.iconst 1, 1) := by decide +kernel
theorem d_L_buffers_16 : decode method_7_code 16 = .ok (.ireturn, 1) := by decide +kernel
theorem d_L_buffers_17 : decode method_7_code 17 = .ok (.astore 4, 2) := by decide +kernel
theorem d_L_buffers_19 : decode method_7_code 19 = .ok (.iconst 2, 1) := by decide +kernel
theorem d_L_buffers_20 : decode method_7_code 20 = .ok (.ireturn, 1) := by decide +kernel
theorem d_L_buffers_21 : decode method_7_code 21 = .ok (.iconst 0, 1) := by decide +kernel
theorem d_L_buffers_22 : decode method_7_code 22 = .ok (.ireturn, 1) := by decide +kernel
theorem d_L_build_0 : decode method_8_code 0 = .ok (.aload_n 1, 1) := by decide +kernel
theorem d_L_build_1 : decode method_8_code 1 = .ok (.iconst 0, 1) := by decide +kernel
theorem d_L_build_2 : decode method_8_code 2 = .ok (.aload_n 0, 1) := by decide +kernel
theorem d_L_build_3 : decode method_8_code 3 = .ok (.invokevirtual 31, 3) := by decide +kernel
theorem d_L_build_6 : decode method_8_code 6 = .ok (.i2l, 1) := by decide +kernel
theorem d_L_build_7 : decode method_8_code 7 = .ok (.lastore, 1) := by decide +kernel
theorem d_L_build_8 : decode method_8_code 8 = .ok (.goto (6), 3) := by decide +kernel
theorem d_L_build_11 : decode method_8_code 11 = .ok (.astore_n 2, 1) := by decide +kernel
theorem d_L_build_12 : decode method_8_code 12 = .ok (.iconst 1, 1) := by decide +kernel
theorem d_L_build_13 : decode method_8_code 13 = .ok (.ireturn, 1) := by decide +kernel
theorem d_L_build_14 : decode method_8_code 14 = .ok (.iconst 0, 1) := by decide +kernel
theorem d_L_build_15 : decode method_8_code 15 = .ok (.ireturn, 1) := by decide +kernel
theorem d_L_restart_0 : decode method_9_code 0 = .ok (.aload_n 0, 1) := by decide +kernel
theorem d_L_restart_1 : decode method_9_code 1 = .ok (.invokevirtual 35, 3) := by decide +kernel
theorem d_L_restart_4 : decode method_9_code 4 = .ok (.goto (6), 3) := by decide +kernel
theorem d_L_restart_7 : decode method_9_code 7 = .ok (.astore_n 1, 1) := by decide +kernel
theorem d_L_restart_8 : decode method_9_code 8 = .ok (.iconst 1, 1) := by decide +kernel
theorem d_L_restart_9 : decode method_9_code 9 = .ok (.ireturn, 1) := by decide +kernel
theorem d_L_restart_10 : decode method_9_code 10 = .ok (.iconst 0, 1) := by decide +kernel
theorem d_L_restart_11 : decode method_9_code 11 = .ok (.ireturn, 1) := by decide +kernel
theorem d_L_offer_0 : decode method_10_code 0 = .ok (.aload_n 3, 1) := by decide +kernel
theorem d_L_offer_1 : decode method_10_code 1 = .ok (.iconst 0, 1) := by decide +kernel
theorem d_L_offer_2 : decode method_10_code 2 = .ok (.aload_n 0, 1) := by decide +kernel
theorem d_L_offer_3 : decode method_10_code 3 = .ok (.iload_n 1, 1) := by decide +kernel
theorem d_L_offer_4 : decode method_10_code 4 = .ok (.iload_n 2, 1) := by decide +kernel
theorem d_L_offer_5 : decode method_10_code 5 = .ok (.invokevirtual 38, 3) := by decide +kernel
theorem d_L_offer_8 : decode method_10_code 8 = .ok (.ifCond .eq (7), 3) := by decide +kernel
theorem d_L_offer_11 : decode method_10_code 11 = .ok (.lconst 1, 1) := by decide +kernel
theorem d_L_offer_12 : decode method_10_code 12 = .ok (.goto (4), 3) := by decide +kernel
theorem d_L_offer_15 : decode method_10_code 15 = .ok (.lconst 0, 1) := by decide +kernel
theorem d_L_offer_16 : decode method_10_code 16 = .ok (.lastore, 1) := by decide +kernel
theorem d_L_offer_17 : decode method_10_code 17 = .ok (.goto (11), 3) := by decide +kernel
theorem d_L_offer_20 : decode method_10_code 20 = .ok (.astore 4, 2) := by decide +kernel
theorem d_L_offer_22 : decode method_10_code 22 = .ok (.iconst 1, 1) := by decide +kernel
theorem d_L_offer_23 : decode method_10_code 23 = .ok (.ireturn, 1) := by decide +kernel
theorem d_L_offer_24 : decode method_10_code 24 = .ok (.astore 4, 2) := by decide +kernel
theorem d_L_offer_26 : decode method_10_code 26 = .ok (.iconst 2, 1) := by decide +kernel
theorem d_L_offer_27 : decode method_10_code 27 = .ok (.ireturn, 1) := by decide +kernel
theorem d_L_offer_28 : decode method_10_code 28 = .ok (.iconst 0, 1) := by decide +kernel
theorem d_L_offer_29 : decode method_10_code 29 = .ok (.ireturn, 1) := by decide +kernel
theorem d_L_tick_0 : decode method_11_code 0 = .ok (.aload_n 2, 1) := by decide +kernel
theorem d_L_tick_1 : decode method_11_code 1 = .ok (.iconst 0, 1) := by decide +kernel
theorem d_L_tick_2 : decode method_11_code 2 = .ok (.aload_n 0, 1) := by decide +kernel
theorem d_L_tick_3 : decode method_11_code 3 = .ok (.iload_n 1, 1) := by decide +kernel
theorem d_L_tick_4 : decode method_11_code 4 = .ok (.invokevirtual 42, 3) := by decide +kernel
theorem d_L_tick_7 : decode method_11_code 7 = .ok (.i2l, 1) := by decide +kernel
theorem d_L_tick_8 : decode method_11_code 8 = .ok (.lastore, 1) := by decide +kernel
theorem d_L_tick_9 : decode method_11_code 9 = .ok (.goto (6), 3) := by decide +kernel
theorem d_L_tick_12 : decode method_11_code 12 = .ok (.astore_n 3, 1) := by decide +kernel
theorem d_L_tick_13 : decode method_11_code 13 = .ok (.iconst 1, 1) := by decide +kernel
theorem d_L_tick_14 : decode method_11_code 14 = .ok (.ireturn, 1) := by decide +kernel
theorem d_L_tick_15 : decode method_11_code 15 = .ok (.iconst 0, 1) := by decide +kernel
theorem d_L_tick_16 : decode method_11_code 16 = .ok (.ireturn, 1) := by decide +kernel
theorem d_L_run_0 : decode method_12_code 0 = .ok (.aload_n 3, 1) := by decide +kernel
theorem d_L_run_1 : decode method_12_code 1 = .ok (.iconst 0, 1) := by decide +kernel
theorem d_L_run_2 : decode method_12_code 2 = .ok (.aload_n 0, 1) := by decide +kernel
theorem d_L_run_3 : decode method_12_code 3 = .ok (.iload_n 1, 1) := by decide +kernel
theorem d_L_run_4 : decode method_12_code 4 = .ok (.iload_n 2, 1) := by decide +kernel
theorem d_L_run_5 : decode method_12_code 5 = .ok (.invokevirtual 45, 3) := by decide +kernel
theorem d_L_run_8 : decode method_12_code 8 = .ok (.i2l, 1) := by decide +kernel
theorem d_L_run_9 : decode method_12_code 9 = .ok (.lastore, 1) := by decide +kernel
theorem d_L_run_10 : decode method_12_code 10 = .ok (.goto (11), 3) := by decide +kernel
theorem d_L_run_13 : decode method_12_code 13 = .ok (.astore 4, 2) := by decide +kernel
theorem d_L_run_15 : decode method_12_code 15 = .ok (.iconst 1, 1) := by decide +kernel
theorem d_L_run_16 : decode method_12_code 16 = .ok (.ireturn, 1) := by decide +kernel
theorem d_L_run_17 : decode method_12_code 17 = .ok (.astore 4, 2) := by decide +kernel
theorem d_L_run_19 : decode method_12_code 19 = .ok (.iconst 2, 1) := by decide +kernel
theorem d_L_run_20 : decode method_12_code 20 = .ok (.ireturn, 1) := by decide +kernel
theorem d_L_run_21 : decode method_12_code 21 = .ok (.iconst 0, 1) := by decide +kernel
theorem d_L_run_22 : decode method_12_code 22 = .ok (.ireturn, 1) := by decide +kernel
theorem d_L_ticks_0 : decode method_13_code 0 = .ok (.aload_n 1, 1) := by decide +kernel
theorem d_L_ticks_1 : decode method_13_code 1 = .ok (.iconst 0, 1) := by decide +kernel
theorem d_L_ticks_2 : decode method_13_code 2 = .ok (.aload_n 0, 1) := by decide +kernel
theorem d_L_ticks_3 : decode method_13_code 3 = .ok (.invokevirtual 48, 3) := by decide +kernel
theorem d_L_ticks_6 : decode method_13_code 6 = .ok (.i2l, 1) := by decide +kernel
theorem d_L_ticks_7 : decode method_13_code 7 = .ok (.lastore, 1) := by decide +kernel
theorem d_L_ticks_8 : decode method_13_code 8 = .ok (.goto (6), 3) := by decide +kernel
theorem d_L_ticks_11 : decode method_13_code 11 = .ok (.astore_n 2, 1) := by decide +kernel
theorem d_L_ticks_12 : decode method_13_code 12 = .ok (.iconst 1, 1) := by decide +kernel
theorem d_L_ticks_13 : decode method_13_code 13 = .ok (.ireturn, 1) := by decide +kernel
theorem d_L_ticks_14 : decode method_13_code 14 = .ok (.iconst 0, 1) := by decide +kernel
theorem d_L_ticks_15 : decode method_13_code 15 = .ok (.ireturn, 1) := by decide +kernel
theorem d_L_turns_0 : decode method_14_code 0 = .ok (.aload_n 2, 1) := by decide +kernel
theorem d_L_turns_1 : decode method_14_code 1 = .ok (.iconst 0, 1) := by decide +kernel
theorem d_L_turns_2 : decode method_14_code 2 = .ok (.aload_n 0, 1) := by decide +kernel
theorem d_L_turns_3 : decode method_14_code 3 = .ok (.iload_n 1, 1) := by decide +kernel
theorem d_L_turns_4 : decode method_14_code 4 = .ok (.invokevirtual 51, 3) := by decide +kernel
theorem d_L_turns_7 : decode method_14_code 7 = .ok (.i2l, 1) := by decide +kernel
theorem d_L_turns_8 : decode method_14_code 8 = .ok (.lastore, 1) := by decide +kernel
theorem d_L_turns_9 : decode method_14_code 9 = .ok (.goto (9), 3) := by decide +kernel
theorem d_L_turns_12 : decode method_14_code 12 = .ok (.astore_n 3, 1) := by decide +kernel
theorem d_L_turns_13 : decode method_14_code 13 = .ok (.iconst 1, 1) := by decide +kernel
theorem d_L_turns_14 : decode method_14_code 14 = .ok (.ireturn, 1) := by decide +kernel
theorem d_L_turns_15 : decode method_14_code 15 = .ok (.astore_n 3, 1) := by decide +kernel
theorem d_L_turns_16 : decode method_14_code 16 = .ok (.iconst 2, 1) := by decide +kernel
theorem d_L_turns_17 : decode method_14_code 17 = .ok (.ireturn, 1) := by decide +kernel
theorem d_L_turns_18 : decode method_14_code 18 = .ok (.iconst 0, 1) := by decide +kernel
theorem d_L_turns_19 : decode method_14_code 19 = .ok (.ireturn, 1) := by decide +kernel
theorem d_L_got_0 : decode method_15_code 0 = .ok (.aload_n 2, 1) := by decide +kernel
theorem d_L_got_1 : decode method_15_code 1 = .ok (.iconst 0, 1) := by decide +kernel
theorem d_L_got_2 : decode method_15_code 2 = .ok (.aload_n 0, 1) := by decide +kernel
theorem d_L_got_3 : decode method_15_code 3 = .ok (.iload_n 1, 1) := by decide +kernel
theorem d_L_got_4 : decode method_15_code 4 = .ok (.invokevirtual 54, 3) := by decide +kernel
theorem d_L_got_7 : decode method_15_code 7 = .ok (.i2l, 1) := by decide +kernel
theorem d_L_got_8 : decode method_15_code 8 = .ok (.lastore, 1) := by decide +kernel
theorem d_L_got_9 : decode method_15_code 9 = .ok (.goto (9), 3) := by decide +kernel
theorem d_L_got_12 : decode method_15_code 12 = .ok (.astore_n 3, 1) := by decide +kernel
theorem d_L_got_13 : decode method_15_code 13 = .ok (.iconst 1, 1) := by decide +kernel
theorem d_L_got_14 : decode method_15_code 14 = .ok (.ireturn, 1) := by decide +kernel
theorem d_L_got_15 : decode method_15_code 15 = .ok (.astore_n 3, 1) := by decide +kernel
theorem d_L_got_16 : decode method_15_code 16 = .ok (.iconst 2, 1) := by decide +kernel
theorem d_L_got_17 : decode method_15_code 17 = .ok (.ireturn, 1) := by decide +kernel
theorem d_L_got_18 : decode method_15_code 18 = .ok (.iconst 0, 1) := by decide +kernel
theorem d_L_got_19 : decode method_15_code 19 = .ok (.ireturn, 1) := by decide +kernel
theorem d_L_inside_0 : decode method_16_code 0 = .ok (.aload_n 3, 1) := by decide +kernel
theorem d_L_inside_1 : decode method_16_code 1 = .ok (.iconst 0, 1) := by decide +kernel
theorem d_L_inside_2 : decode method_16_code 2 = .ok (.aload_n 0, 1) := by decide +kernel
theorem d_L_inside_3 : decode method_16_code 3 = .ok (.iload_n 1, 1) := by decide +kernel
theorem d_L_inside_4 : decode method_16_code 4 = .ok (.iload_n 2, 1) := by decide +kernel
theorem d_L_inside_5 : decode method_16_code 5 = .ok (.invokevirtual 57, 3) := by decide +kernel
theorem d_L_inside_8 : decode method_16_code 8 = .ok (.i2l, 1) := by decide +kernel
theorem d_L_inside_9 : decode method_16_code 9 = .ok (.lastore, 1) := by decide +kernel
theorem d_L_inside_10 : decode method_16_code 10 = .ok (.goto (11), 3) := by decide +kernel
theorem d_L_inside_13 : decode method_16_code 13 = .ok (.astore 4, 2) := by decide +kernel
theorem d_L_inside_15 : decode method_16_code 15 = .ok (.iconst 1, 1) := by decide +kernel
theorem d_L_inside_16 : decode method_16_code 16 = .ok (.ireturn, 1) := by decide +kernel
theorem d_L_inside_17 : decode method_16_code 17 = .ok (.astore 4, 2) := by decide +kernel
theorem d_L_inside_19 : decode method_16_code 19 = .ok (.iconst 2, 1) := by decide +kernel
theorem d_L_inside_20 : decode method_16_code 20 = .ok (.ireturn, 1) := by decide +kernel
theorem d_L_inside_21 : decode method_16_code 21 = .ok (.iconst 0, 1) := by decide +kernel
theorem d_L_inside_22 : decode method_16_code 22 = .ok (.ireturn, 1) := by decide +kernel
theorem d_L_taken_0 : decode method_17_code 0 = .ok (.aload_n 2, 1) := by decide +kernel
theorem d_L_taken_1 : decode method_17_code 1 = .ok (.iconst 0, 1) := by decide +kernel
theorem d_L_taken_2 : decode method_17_code 2 = .ok (.aload_n 0, 1) := by decide +kernel
theorem d_L_taken_3 : decode method_17_code 3 = .ok (.iload_n 1, 1) := by decide +kernel
theorem d_L_taken_4 : decode method_17_code 4 = .ok (.invokevirtual 60, 3) := by decide +kernel
theorem d_L_taken_7 : decode method_17_code 7 = .ok (.i2l, 1) := by decide +kernel
theorem d_L_taken_8 : decode method_17_code 8 = .ok (.lastore, 1) := by decide +kernel
theorem d_L_taken_9 : decode method_17_code 9 = .ok (.goto (9), 3) := by decide +kernel
theorem d_L_taken_12 : decode method_17_code 12 = .ok (.astore_n 3, 1) := by decide +kernel
theorem d_L_taken_13 : decode method_17_code 13 = .ok (.iconst 1, 1) := by decide +kernel
theorem d_L_taken_14 : decode method_17_code 14 = .ok (.ireturn, 1) := by decide +kernel
theorem d_L_taken_15 : decode method_17_code 15 = .ok (.astore_n 3, 1) := by decide +kernel
theorem d_L_taken_16 : decode method_17_code 16 = .ok (.iconst 2, 1) := by decide +kernel
theorem d_L_taken_17 : decode method_17_code 17 = .ok (.ireturn, 1) := by decide +kernel
theorem d_L_taken_18 : decode method_17_code 18 = .ok (.iconst 0, 1) := by decide +kernel
theorem d_L_taken_19 : decode method_17_code 19 = .ok (.ireturn, 1) := by decide +kernel
theorem d_L_given_0 : decode method_18_code 0 = .ok (.aload_n 2, 1) := by decide +kernel
theorem d_L_given_1 : decode method_18_code 1 = .ok (.iconst 0, 1) := by decide +kernel
theorem d_L_given_2 : decode method_18_code 2 = .ok (.aload_n 0, 1) := by decide +kernel
theorem d_L_given_3 : decode method_18_code 3 = .ok (.iload_n 1, 1) := by decide +kernel
theorem d_L_given_4 : decode method_18_code 4 = .ok (.invokevirtual 63, 3) := by decide +kernel
theorem d_L_given_7 : decode method_18_code 7 = .ok (.i2l, 1) := by decide +kernel
theorem d_L_given_8 : decode method_18_code 8 = .ok (.lastore, 1) := by decide +kernel
theorem d_L_given_9 : decode method_18_code 9 = .ok (.goto (9), 3) := by decide +kernel
theorem d_L_given_12 : decode method_18_code 12 = .ok (.astore_n 3, 1) := by decide +kernel
theorem d_L_given_13 : decode method_18_code 13 = .ok (.iconst 1, 1) := by decide +kernel
theorem d_L_given_14 : decode method_18_code 14 = .ok (.ireturn, 1) := by decide +kernel
theorem d_L_given_15 : decode method_18_code 15 = .ok (.astore_n 3, 1) := by decide +kernel
theorem d_L_given_16 : decode method_18_code 16 = .ok (.iconst 2, 1) := by decide +kernel
theorem d_L_given_17 : decode method_18_code 17 = .ok (.ireturn, 1) := by decide +kernel
theorem d_L_given_18 : decode method_18_code 18 = .ok (.iconst 0, 1) := by decide +kernel
theorem d_L_given_19 : decode method_18_code 19 = .ok (.ireturn, 1) := by decide +kernel
theorem d_L_value_0 : decode method_19_code 0 = .ok (.aload_n 3, 1) := by decide +kernel
theorem d_L_value_1 : decode method_19_code 1 = .ok (.iconst 0, 1) := by decide +kernel
theorem d_L_value_2 : decode method_19_code 2 = .ok (.aload_n 0, 1) := by decide +kernel
theorem d_L_value_3 : decode method_19_code 3 = .ok (.iload_n 1, 1) := by decide +kernel
theorem d_L_value_4 : decode method_19_code 4 = .ok (.iload_n 2, 1) := by decide +kernel
theorem d_L_value_5 : decode method_19_code 5 = .ok (.invokevirtual 66, 3) := by decide +kernel
theorem d_L_value_8 : decode method_19_code 8 = .ok (.lastore, 1) := by decide +kernel
theorem d_L_value_9 : decode method_19_code 9 = .ok (.goto (15), 3) := by decide +kernel
theorem d_L_value_12 : decode method_19_code 12 = .ok (.astore 4, 2) := by decide +kernel
theorem d_L_value_14 : decode method_19_code 14 = .ok (.iconst 1, 1) := by decide +kernel
theorem d_L_value_15 : decode method_19_code 15 = .ok (.ireturn, 1) := by decide +kernel
theorem d_L_value_16 : decode method_19_code 16 = .ok (.astore 4, 2) := by decide +kernel
theorem d_L_value_18 : decode method_19_code 18 = .ok (.iconst 2, 1) := by decide +kernel
theorem d_L_value_19 : decode method_19_code 19 = .ok (.ireturn, 1) := by decide +kernel
theorem d_L_value_20 : decode method_19_code 20 = .ok (.astore 4, 2) := by decide +kernel
theorem d_L_value_22 : decode method_19_code 22 = .ok (.iconst 3, 1) := by decide +kernel
theorem d_L_value_23 : decode method_19_code 23 = .ok (.ireturn, 1) := by decide +kernel
theorem d_L_value_24 : decode method_19_code 24 = .ok (.iconst 0, 1) := by decide +kernel
theorem d_L_value_25 : decode method_19_code 25 = .ok (.ireturn, 1) := by decide +kernel
theorem d_L_byClock_0 : decode method_20_code 0 = .ok (.aload_n 3, 1) := by decide +kernel
theorem d_L_byClock_1 : decode method_20_code 1 = .ok (.iconst 0, 1) := by decide +kernel
theorem d_L_byClock_2 : decode method_20_code 2 = .ok (.aload_n 0, 1) := by decide +kernel
theorem d_L_byClock_3 : decode method_20_code 3 = .ok (.iload_n 1, 1) := by decide +kernel
theorem d_L_byClock_4 : decode method_20_code 4 = .ok (.iload_n 2, 1) := by decide +kernel
theorem d_L_byClock_5 : decode method_20_code 5 = .ok (.invokevirtual 72, 3) := by decide +kernel
theorem d_L_byClock_8 : decode method_20_code 8 = .ok (.i2l, 1) := by decide +kernel
theorem d_L_byClock_9 : decode method_20_code 9 = .ok (.lastore, 1) := by decide +kernel
theorem d_L_byClock_10 : decode method_20_code 10 = .ok (.goto (15), 3) := by decide +kernel
theorem d_L_byClock_13 : decode method_20_code 13 = .ok (.astore 4, 2) := by decide +kernel
theorem d_L_byClock_15 : decode method_20_code 15 = .ok (.iconst 1, 1) := by decide +kernel
theorem d_L_byClock_16 : decode method_20_code 16 = .ok (.ireturn, 1) := by decide +kernel
theorem d_L_byClock_17 : decode method_20_code 17 = .ok (.astore 4, 2) := by decide +kernel
theorem d_L_byClock_19 : decode method_20_code 19 = .ok (.iconst 2, 1) := by decide +kernel
theorem d_L_byClock_20 : decode method_20_code 20 = .ok (.ireturn, 1) := by decide +kernel
theorem d_L_byClock_21 : decode method_20_code 21 = .ok (.astore 4, 2) := by decide +kernel
theorem d_L_byClock_23 : decode method_20_code 23 = .ok (.iconst 3, 1) := by decide +kernel
theorem d_L_byClock_24 : decode method_20_code 24 = .ok (.ireturn, 1) := by decide +kernel
theorem d_L_byClock_25 : decode method_20_code 25 = .ok (.iconst 0, 1) := by decide +kernel
theorem d_L_byClock_26 : decode method_20_code 26 = .ok (.ireturn, 1) := by decide +kernel
theorem d_L_rate_0 : decode method_21_code 0 = .ok (.aload_n 2, 1) := by decide +kernel
theorem d_L_rate_1 : decode method_21_code 1 = .ok (.iconst 0, 1) := by decide +kernel
theorem d_L_rate_2 : decode method_21_code 2 = .ok (.aload_n 0, 1) := by decide +kernel
theorem d_L_rate_3 : decode method_21_code 3 = .ok (.iload_n 1, 1) := by decide +kernel
theorem d_L_rate_4 : decode method_21_code 4 = .ok (.invokevirtual 75, 3) := by decide +kernel
theorem d_L_rate_7 : decode method_21_code 7 = .ok (.i2l, 1) := by decide +kernel
theorem d_L_rate_8 : decode method_21_code 8 = .ok (.lastore, 1) := by decide +kernel
theorem d_L_rate_9 : decode method_21_code 9 = .ok (.goto (9), 3) := by decide +kernel
theorem d_L_rate_12 : decode method_21_code 12 = .ok (.astore_n 3, 1) := by decide +kernel
theorem d_L_rate_13 : decode method_21_code 13 = .ok (.iconst 1, 1) := by decide +kernel
theorem d_L_rate_14 : decode method_21_code 14 = .ok (.ireturn, 1) := by decide +kernel
theorem d_L_rate_15 : decode method_21_code 15 = .ok (.astore_n 3, 1) := by decide +kernel
theorem d_L_rate_16 : decode method_21_code 16 = .ok (.iconst 2, 1) := by decide +kernel
theorem d_L_rate_17 : decode method_21_code 17 = .ok (.ireturn, 1) := by decide +kernel
theorem d_L_rate_18 : decode method_21_code 18 = .ok (.iconst 0, 1) := by decide +kernel
theorem d_L_rate_19 : decode method_21_code 19 = .ok (.ireturn, 1) := by decide +kernel
theorem d_L_law_0 : decode code 0 = .ok (.new 8, 3) := by decide +kernel
theorem d_L_law_3 : decode code 3 = .ok (.dup, 1) := by decide +kernel
theorem d_L_law_4 : decode code 4 = .ok (.invokespecial 78, 3) := by decide +kernel
theorem d_L_law_7 : decode code 7 = .ok (.astore_n 1, 1) := by decide +kernel
theorem d_L_law_8 : decode code 8 = .ok (.new 79, 3) := by decide +kernel
theorem d_L_law_11 : decode code 11 = .ok (.dup, 1) := by decide +kernel
theorem d_L_law_12 : decode code 12 = .ok (.invokespecial 81, 3) := by decide +kernel
theorem d_L_law_15 : decode code 15 = .ok (.astore_n 2, 1) := by decide +kernel
theorem d_L_law_16 : decode code 16 = .ok (.iconst 1, 1) := by decide +kernel
theorem d_L_law_17 : decode code 17 = .ok (.newarray .long, 2) := by decide +kernel
theorem d_L_law_19 : decode code 19 = .ok (.astore_n 3, 1) := by decide +kernel
theorem d_L_law_20 : decode code 20 = .ok (.iconst 0, 1) := by decide +kernel
theorem d_L_law_21 : decode code 21 = .ok (.istore 4, 2) := by decide +kernel
theorem d_L_law_23 : decode code 23 = .ok (.iload 4, 2) := by decide +kernel
theorem d_L_law_25 : decode code 25 = .ok (.aload_n 0, 1) := by decide +kernel
theorem d_L_law_26 : decode code 26 = .ok (.arraylength, 1) := by decide +kernel
theorem d_L_law_27 : decode code 27 = .ok (.iconst 4, 1) := by decide +kernel
theorem d_L_law_28 : decode code 28 = .ok (.isub, 1) := by decide +kernel
theorem d_L_law_29 : decode code 29 = .ok (.if_icmp .gt (1244), 3) := by decide +kernel
theorem d_L_law_32 : decode code 32 = .ok (.aload_n 0, 1) := by decide +kernel
theorem d_L_law_33 : decode code 33 = .ok (.iload 4, 2) := by decide +kernel
theorem d_L_law_35 : decode code 35 = .ok (.iaload, 1) := by decide +kernel
theorem d_L_law_36 : decode code 36 = .ok (.bipush (31), 2) := by decide +kernel
theorem d_L_law_38 : decode code 38 = .ok (.iand, 1) := by decide +kernel
theorem d_L_law_39 : decode code 39 = .ok (.tableswitch (1228) 0 19 #[93, 161, 241, 297, 353, 421, 465, 478, 502, 577, 633, 701, 745, 801, 857, 925, 981, 1037, 1104, 1172], 93) := by decide +kernel
theorem d_L_law_132 : decode code 132 = .ok (.aload_n 1, 1) := by decide +kernel
theorem d_L_law_133 : decode code 133 = .ok (.aload_n 0, 1) := by decide +kernel
theorem d_L_law_134 : decode code 134 = .ok (.iload 4, 2) := by decide +kernel
theorem d_L_law_136 : decode code 136 = .ok (.iconst 1, 1) := by decide +kernel
theorem d_L_law_137 : decode code 137 = .ok (.iadd, 1) := by decide +kernel
theorem d_L_law_138 : decode code 138 = .ok (.iaload, 1) := by decide +kernel
theorem d_L_law_139 : decode code 139 = .ok (.aload_n 0, 1) := by decide +kernel
theorem d_L_law_140 : decode code 140 = .ok (.iload 4, 2) := by decide +kernel
theorem d_L_law_142 : decode code 142 = .ok (.iconst 2, 1) := by decide +kernel
theorem d_L_law_143 : decode code 143 = .ok (.iadd, 1) := by decide +kernel
theorem d_L_law_144 : decode code 144 = .ok (.iaload, 1) := by decide +kernel
theorem d_L_law_145 : decode code 145 = .ok (.aload_n 3, 1) := by decide +kernel
theorem d_L_law_146 : decode code 146 = .ok (.invokestatic 82, 3) := by decide +kernel
theorem d_L_law_149 : decode code 149 = .ok (.istore 5, 2) := by decide +kernel
theorem d_L_law_151 : decode code 151 = .ok (.aload_n 2, 1) := by decide +kernel
theorem d_L_law_152 : decode code 152 = .ok (.aload_n 0, 1) := by decide +kernel
theorem d_L_law_153 : decode code 153 = .ok (.iload 4, 2) := by decide +kernel
theorem d_L_law_155 : decode code 155 = .ok (.iconst 1, 1) := by decide +kernel
theorem d_L_law_156 : decode code 156 = .ok (.iadd, 1) := by decide +kernel
theorem d_L_law_157 : decode code 157 = .ok (.iaload, 1) := by decide +kernel
theorem d_L_law_158 : decode code 158 = .ok (.aload_n 0, 1) := by decide +kernel
theorem d_L_law_159 : decode code 159 = .ok (.iload 4, 2) := by decide +kernel
theorem d_L_law_161 : decode code 161 = .ok (.iconst 2, 1) := by decide +kernel
theorem d_L_law_162 : decode code 162 = .ok (.iadd, 1) := by decide +kernel
theorem d_L_law_163 : decode code 163 = .ok (.iaload, 1) := by decide +kernel
theorem d_L_law_164 : decode code 164 = .ok (.invokevirtual 87, 3) := by decide +kernel
theorem d_L_law_167 : decode code 167 = .ok (.istore 6, 2) := by decide +kernel
theorem d_L_law_169 : decode code 169 = .ok (.aload_n 2, 1) := by decide +kernel
theorem d_L_law_170 : decode code 170 = .ok (.invokevirtual 88, 3) := by decide +kernel
theorem d_L_law_173 : decode code 173 = .ok (.iload 5, 2) := by decide +kernel
theorem d_L_law_175 : decode code 175 = .ok (.if_icmp .eq (5), 3) := by decide +kernel
theorem d_L_law_178 : decode code 178 = .ok (.iconst 0, 1) := by decide +kernel
theorem d_L_law_179 : decode code 179 = .ok (.ireturn, 1) := by decide +kernel
theorem d_L_law_180 : decode code 180 = .ok (.iload 5, 2) := by decide +kernel
theorem d_L_law_182 : decode code 182 = .ok (.ifCond .ne (15), 3) := by decide +kernel
theorem d_L_law_185 : decode code 185 = .ok (.aload_n 3, 1) := by decide +kernel
theorem d_L_law_186 : decode code 186 = .ok (.iconst 0, 1) := by decide +kernel
theorem d_L_law_187 : decode code 187 = .ok (.laload, 1) := by decide +kernel
theorem d_L_law_188 : decode code 188 = .ok (.iload 6, 2) := by decide +kernel
theorem d_L_law_190 : decode code 190 = .ok (.i2l, 1) := by decide +kernel
theorem d_L_law_191 : decode code 191 = .ok (.lcmp, 1) := by decide +kernel
theorem d_L_law_192 : decode code 192 = .ok (.ifCond .eq (5), 3) := by decide +kernel
theorem d_L_law_195 : decode code 195 = .ok (.iconst 0, 1) := by decide +kernel
theorem d_L_law_196 : decode code 196 = .ok (.ireturn, 1) := by decide +kernel
theorem d_L_law_197 : decode code 197 = .ok (.goto (1070), 3) := by decide +kernel
theorem d_L_law_200 : decode code 200 = .ok (.aload_n 1, 1) := by decide +kernel
theorem d_L_law_201 : decode code 201 = .ok (.aload_n 0, 1) := by decide +kernel
theorem d_L_law_202 : decode code 202 = .ok (.iload 4, 2) := by decide +kernel
theorem d_L_law_204 : decode code 204 = .ok (.iconst 1, 1) := by decide +kernel
theorem d_L_law_205 : decode code 205 = .ok (.iadd, 1) := by decide +kernel
theorem d_L_law_206 : decode code 206 = .ok (.iaload, 1) := by decide +kernel
theorem d_L_law_207 : decode code 207 = .ok (.aload_n 0, 1) := by decide +kernel
theorem d_L_law_208 : decode code 208 = .ok (.iload 4, 2) := by decide +kernel
theorem d_L_law_210 : decode code 210 = .ok (.iconst 2, 1) := by decide +kernel
theorem d_L_law_211 : decode code 211 = .ok (.iadd, 1) := by decide +kernel
theorem d_L_law_212 : decode code 212 = .ok (.iaload, 1) := by decide +kernel
theorem d_L_law_213 : decode code 213 = .ok (.aload_n 0, 1) := by decide +kernel
theorem d_L_law_214 : decode code 214 = .ok (.iload 4, 2) := by decide +kernel
theorem d_L_law_216 : decode code 216 = .ok (.iconst 3, 1) := by decide +kernel
theorem d_L_law_217 : decode code 217 = .ok (.iadd, 1) := by decide +kernel
theorem d_L_law_218 : decode code 218 = .ok (.iaload, 1) := by decide +kernel
theorem d_L_law_219 : decode code 219 = .ok (.aload_n 3, 1) := by decide +kernel
theorem d_L_law_220 : decode code 220 = .ok (.invokestatic 91, 3) := by decide +kernel
theorem d_L_law_223 : decode code 223 = .ok (.istore 5, 2) := by decide +kernel
theorem d_L_law_225 : decode code 225 = .ok (.aload_n 2, 1) := by decide +kernel
theorem d_L_law_226 : decode code 226 = .ok (.aload_n 0, 1) := by decide +kernel
theorem d_L_law_227 : decode code 227 = .ok (.iload 4, 2) := by decide +kernel
theorem d_L_law_229 : decode code 229 = .ok (.iconst 1, 1) := by decide +kernel
theorem d_L_law_230 : decode code 230 = .ok (.iadd, 1) := by decide +kernel
theorem d_L_law_231 : decode code 231 = .ok (.iaload, 1) := by decide +kernel
theorem d_L_law_232 : decode code 232 = .ok (.aload_n 0, 1) := by decide +kernel
theorem d_L_law_233 : decode code 233 = .ok (.iload 4, 2) := by decide +kernel
theorem d_L_law_235 : decode code 235 = .ok (.iconst 2, 1) := by decide +kernel
theorem d_L_law_236 : decode code 236 = .ok (.iadd, 1) := by decide +kernel
theorem d_L_law_237 : decode code 237 = .ok (.iaload, 1) := by decide +kernel
theorem d_L_law_238 : decode code 238 = .ok (.aload_n 0, 1) := by decide +kernel
theorem d_L_law_239 : decode code 239 = .ok (.iload 4, 2) := by decide +kernel
theorem d_L_law_241 : decode code 241 = .ok (.iconst 3, 1) := by decide +kernel
theorem d_L_law_242 : decode code 242 = .ok (.iadd, 1) := by decide +kernel
theorem d_L_law_243 : decode code 243 = .ok (.iaload, 1) := by decide +kernel
theorem d_L_law_244 : decode code 244 = .ok (.invokevirtual 94, 3) := by decide +kernel
theorem d_L_law_247 : decode code 247 = .ok (.istore 6, 2) := by decide +kernel
theorem d_L_law_249 : decode code 249 = .ok (.aload_n 2, 1) := by decide +kernel
theorem d_L_law_250 : decode code 250 = .ok (.invokevirtual 88, 3) := by decide +kernel
theorem d_L_law_253 : decode code 253 = .ok (.iload 5, 2) := by decide +kernel
theorem d_L_law_255 : decode code 255 = .ok (.if_icmp .eq (5), 3) := by decide +kernel
theorem d_L_law_258 : decode code 258 = .ok (.iconst 0, 1) := by decide +kernel
theorem d_L_law_259 : decode code 259 = .ok (.ireturn, 1) := by decide +kernel
theorem d_L_law_260 : decode code 260 = .ok (.iload 5, 2) := by decide +kernel
theorem d_L_law_262 : decode code 262 = .ok (.ifCond .ne (15), 3) := by decide +kernel
theorem d_L_law_265 : decode code 265 = .ok (.aload_n 3, 1) := by decide +kernel
theorem d_L_law_266 : decode code 266 = .ok (.iconst 0, 1) := by decide +kernel
theorem d_L_law_267 : decode code 267 = .ok (.laload, 1) := by decide +kernel
theorem d_L_law_268 : decode code 268 = .ok (.iload 6, 2) := by decide +kernel
theorem d_L_law_270 : decode code 270 = .ok (.i2l, 1) := by decide +kernel
theorem d_L_law_271 : decode code 271 = .ok (.lcmp, 1) := by decide +kernel
theorem d_L_law_272 : decode code 272 = .ok (.ifCond .eq (5), 3) := by decide +kernel
theorem d_L_law_275 : decode code 275 = .ok (.iconst 0, 1) := by decide +kernel
theorem d_L_law_276 : decode code 276 = .ok (.ireturn, 1) := by decide +kernel
theorem d_L_law_277 : decode code 277 = .ok (.goto (990), 3) := by decide +kernel
theorem d_L_law_280 : decode code 280 = .ok (.aload_n 1, 1) := by decide +kernel
theorem d_L_law_281 : decode code 281 = .ok (.aload_n 0, 1) := by decide +kernel
theorem d_L_law_282 : decode code 282 = .ok (.iload 4, 2) := by decide +kernel
theorem d_L_law_284 : decode code 284 = .ok (.iconst 1, 1) := by decide +kernel
theorem d_L_law_285 : decode code 285 = .ok (.iadd, 1) := by decide +kernel
theorem d_L_law_286 : decode code 286 = .ok (.iaload, 1) := by decide +kernel
theorem d_L_law_287 : decode code 287 = .ok (.aload_n 3, 1) := by decide +kernel
theorem d_L_law_288 : decode code 288 = .ok (.invokestatic 95, 3) := by decide +kernel
theorem d_L_law_291 : decode code 291 = .ok (.istore 5, 2) := by decide +kernel
theorem d_L_law_293 : decode code 293 = .ok (.aload_n 2, 1) := by decide +kernel
theorem d_L_law_294 : decode code 294 = .ok (.aload_n 0, 1) := by decide +kernel
theorem d_L_law_295 : decode code 295 = .ok (.iload 4, 2) := by decide +kernel
theorem d_L_law_297 : decode code 297 = .ok (.iconst 1, 1) := by decide +kernel
theorem d_L_law_298 : decode code 298 = .ok (.iadd, 1) := by decide +kernel
theorem d_L_law_299 : decode code 299 = .ok (.iaload, 1) := by decide +kernel
theorem d_L_law_300 : decode code 300 = .ok (.invokevirtual 98, 3) := by decide +kernel
theorem d_L_law_303 : decode code 303 = .ok (.istore 6, 2) := by decide +kernel
theorem d_L_law_305 : decode code 305 = .ok (.aload_n 2, 1) := by decide +kernel
theorem d_L_law_306 : decode code 306 = .ok (.invokevirtual 88, 3) := by decide +kernel
theorem d_L_law_309 : decode code 309 = .ok (.iload 5, 2) := by decide +kernel
theorem d_L_law_311 : decode code 311 = .ok (.if_icmp .eq (5), 3) := by decide +kernel
theorem d_L_law_314 : decode code 314 = .ok (.iconst 0, 1) := by decide +kernel
theorem d_L_law_315 : decode code 315 = .ok (.ireturn, 1) := by decide +kernel
theorem d_L_law_316 : decode code 316 = .ok (.iload 5, 2) := by decide +kernel
theorem d_L_law_318 : decode code 318 = .ok (.ifCond .ne (15), 3) := by decide +kernel
theorem d_L_law_321 : decode code 321 = .ok (.aload_n 3, 1) := by decide +kernel
theorem d_L_law_322 : decode code 322 = .ok (.iconst 0, 1) := by decide +kernel
theorem d_L_law_323 : decode code 323 = .ok (.laload, 1) := by decide +kernel
theorem d_L_law_324 : decode code 324 = .ok (.iload 6, 2) := by decide +kernel
theorem d_L_law_326 : decode code 326 = .ok (.i2l, 1) := by decide +kernel
theorem d_L_law_327 : decode code 327 = .ok (.lcmp, 1) := by decide +kernel
theorem d_L_law_328 : decode code 328 = .ok (.ifCond .eq (5), 3) := by decide +kernel
theorem d_L_law_331 : decode code 331 = .ok (.iconst 0, 1) := by decide +kernel
theorem d_L_law_332 : decode code 332 = .ok (.ireturn, 1) := by decide +kernel
theorem d_L_law_333 : decode code 333 = .ok (.goto (934), 3) := by decide +kernel
theorem d_L_law_336 : decode code 336 = .ok (.aload_n 1, 1) := by decide +kernel
theorem d_L_law_337 : decode code 337 = .ok (.aload_n 0, 1) := by decide +kernel
theorem d_L_law_338 : decode code 338 = .ok (.iload 4, 2) := by decide +kernel
theorem d_L_law_340 : decode code 340 = .ok (.iconst 1, 1) := by decide +kernel
theorem d_L_law_341 : decode code 341 = .ok (.iadd, 1) := by decide +kernel
theorem d_L_law_342 : decode code 342 = .ok (.iaload, 1) := by decide +kernel
theorem d_L_law_343 : decode code 343 = .ok (.aload_n 3, 1) := by decide +kernel
theorem d_L_law_344 : decode code 344 = .ok (.invokestatic 99, 3) := by decide +kernel
theorem d_L_law_347 : decode code 347 = .ok (.istore 5, 2) := by decide +kernel
theorem d_L_law_349 : decode code 349 = .ok (.aload_n 2, 1) := by decide +kernel
theorem d_L_law_350 : decode code 350 = .ok (.aload_n 0, 1) := by decide +kernel
theorem d_L_law_351 : decode code 351 = .ok (.iload 4, 2) := by decide +kernel
theorem d_L_law_353 : decode code 353 = .ok (.iconst 1, 1) := by decide +kernel
theorem d_L_law_354 : decode code 354 = .ok (.iadd, 1) := by decide +kernel
theorem d_L_law_355 : decode code 355 = .ok (.iaload, 1) := by decide +kernel
theorem d_L_law_356 : decode code 356 = .ok (.invokevirtual 101, 3) := by decide +kernel
theorem d_L_law_359 : decode code 359 = .ok (.istore 6, 2) := by decide +kernel
theorem d_L_law_361 : decode code 361 = .ok (.aload_n 2, 1) := by decide +kernel
theorem d_L_law_362 : decode code 362 = .ok (.invokevirtual 88, 3) := by decide +kernel
theorem d_L_law_365 : decode code 365 = .ok (.iload 5, 2) := by decide +kernel
theorem d_L_law_367 : decode code 367 = .ok (.if_icmp .eq (5), 3) := by decide +kernel
theorem d_L_law_370 : decode code 370 = .ok (.iconst 0, 1) := by decide +kernel
theorem d_L_law_371 : decode code 371 = .ok (.ireturn, 1) := by decide +kernel
theorem d_L_law_372 : decode code 372 = .ok (.iload 5, 2) := by decide +kernel
theorem d_L_law_374 : decode code 374 = .ok (.ifCond .ne (15), 3) := by decide +kernel
theorem d_L_law_377 : decode code 377 = .ok (.aload_n 3, 1) := by decide +kernel
theorem d_L_law_378 : decode code 378 = .ok (.iconst 0, 1) := by decide +kernel
theorem d_L_law_379 : decode code 379 = .ok (.laload, 1) := by decide +kernel
theorem d_L_law_380 : decode code 380 = .ok (.iload 6, 2) := by decide +kernel
theorem d_L_law_382 : decode code 382 = .ok (.i2l, 1) := by decide +kernel
theorem d_L_law_383 : decode code 383 = .ok (.lcmp, 1) := by decide +kernel
theorem d_L_law_384 : decode code 384 = .ok (.ifCond .eq (5), 3) := by decide +kernel
theorem d_L_law_387 : decode code 387 = .ok (.iconst 0, 1) := by decide +kernel
theorem d_L_law_388 : decode code 388 = .ok (.ireturn, 1) := by decide +kernel
theorem d_L_law_389 : decode code 389 = .ok (.goto (878), 3) := by decide +kernel
theorem d_L_law_392 : decode code 392 = .ok (.aload_n 1, 1) := by decide +kernel
theorem d_L_law_393 : decode code 393 = .ok (.aload_n 0, 1) := by decide +kernel
theorem d_L_law_394 : decode code 394 = .ok (.iload 4, 2) := by decide +kernel
theorem d_L_law_396 : decode code 396 = .ok (.iconst 1, 1) := by decide +kernel
theorem d_L_law_397 : decode code 397 = .ok (.iadd, 1) := by decide +kernel
theorem d_L_law_398 : decode code 398 = .ok (.iaload, 1) := by decide +kernel
theorem d_L_law_399 : decode code 399 = .ok (.aload_n 0, 1) := by decide +kernel
theorem d_L_law_400 : decode code 400 = .ok (.iload 4, 2) := by decide +kernel
theorem d_L_law_402 : decode code 402 = .ok (.iconst 2, 1) := by decide +kernel
theorem d_L_law_403 : decode code 403 = .ok (.iadd, 1) := by decide +kernel
theorem d_L_law_404 : decode code 404 = .ok (.iaload, 1) := by decide +kernel
theorem d_L_law_405 : decode code 405 = .ok (.aload_n 3, 1) := by decide +kernel
theorem d_L_law_406 : decode code 406 = .ok (.invokestatic 102, 3) := by decide +kernel
theorem d_L_law_409 : decode code 409 = .ok (.istore 5, 2) := by decide +kernel
theorem d_L_law_411 : decode code 411 = .ok (.aload_n 2, 1) := by decide +kernel
theorem d_L_law_412 : decode code 412 = .ok (.aload_n 0, 1) := by decide +kernel
theorem d_L_law_413 : decode code 413 = .ok (.iload 4, 2) := by decide +kernel
theorem d_L_law_415 : decode code 415 = .ok (.iconst 1, 1) := by decide +kernel
theorem d_L_law_416 : decode code 416 = .ok (.iadd, 1) := by decide +kernel
theorem d_L_law_417 : decode code 417 = .ok (.iaload, 1) := by decide +kernel
theorem d_L_law_418 : decode code 418 = .ok (.aload_n 0, 1) := by decide +kernel
theorem d_L_law_419 : decode code 419 = .ok (.iload 4, 2) := by decide +kernel
theorem d_L_law_421 : decode code 421 = .ok (.iconst 2, 1) := by decide +kernel
theorem d_L_law_422 : decode code 422 = .ok (.iadd, 1) := by decide +kernel
theorem d_L_law_423 : decode code 423 = .ok (.iaload, 1) := by decide +kernel
theorem d_L_law_424 : decode code 424 = .ok (.invokevirtual 104, 3) := by decide +kernel
theorem d_L_law_427 : decode code 427 = .ok (.istore 6, 2) := by decide +kernel
theorem d_L_law_429 : decode code 429 = .ok (.aload_n 2, 1) := by decide +kernel
theorem d_L_law_430 : decode code 430 = .ok (.invokevirtual 88, 3) := by decide +kernel
theorem d_L_law_433 : decode code 433 = .ok (.iload 5, 2) := by decide +kernel
theorem d_L_law_435 : decode code 435 = .ok (.if_icmp .eq (5), 3) := by decide +kernel
theorem d_L_law_438 : decode code 438 = .ok (.iconst 0, 1) := by decide +kernel
theorem d_L_law_439 : decode code 439 = .ok (.ireturn, 1) := by decide +kernel
theorem d_L_law_440 : decode code 440 = .ok (.iload 5, 2) := by decide +kernel
theorem d_L_law_442 : decode code 442 = .ok (.ifCond .ne (15), 3) := by decide +kernel
theorem d_L_law_445 : decode code 445 = .ok (.aload_n 3, 1) := by decide +kernel
theorem d_L_law_446 : decode code 446 = .ok (.iconst 0, 1) := by decide +kernel
theorem d_L_law_447 : decode code 447 = .ok (.laload, 1) := by decide +kernel
theorem d_L_law_448 : decode code 448 = .ok (.iload 6, 2) := by decide +kernel
theorem d_L_law_450 : decode code 450 = .ok (.i2l, 1) := by decide +kernel
theorem d_L_law_451 : decode code 451 = .ok (.lcmp, 1) := by decide +kernel
theorem d_L_law_452 : decode code 452 = .ok (.ifCond .eq (5), 3) := by decide +kernel
theorem d_L_law_455 : decode code 455 = .ok (.iconst 0, 1) := by decide +kernel
theorem d_L_law_456 : decode code 456 = .ok (.ireturn, 1) := by decide +kernel
theorem d_L_law_457 : decode code 457 = .ok (.goto (810), 3) := by decide +kernel
theorem d_L_law_460 : decode code 460 = .ok (.aload_n 1, 1) := by decide +kernel
theorem d_L_law_461 : decode code 461 = .ok (.aload_n 3, 1) := by decide +kernel
theorem d_L_law_462 : decode code 462 = .ok (.invokestatic 105, 3) := by decide +kernel
theorem d_L_law_465 : decode code 465 = .ok (.istore 5, 2) := by decide +kernel
theorem d_L_law_467 : decode code 467 = .ok (.aload_n 2, 1) := by decide +kernel
theorem d_L_law_468 : decode code 468 = .ok (.invokevirtual 108, 3) := by decide +kernel
theorem d_L_law_471 : decode code 471 = .ok (.istore 6, 2) := by decide +kernel
theorem d_L_law_473 : decode code 473 = .ok (.aload_n 2, 1) := by decide +kernel
theorem d_L_law_474 : decode code 474 = .ok (.invokevirtual 88, 3) := by decide +kernel
theorem d_L_law_477 : decode code 477 = .ok (.iload 5, 2) := by decide +kernel
theorem d_L_law_479 : decode code 479 = .ok (.if_icmp .eq (5), 3) := by decide +kernel
theorem d_L_law_482 : decode code 482 = .ok (.iconst 0, 1) := by decide +kernel
theorem d_L_law_483 : decode code 483 = .ok (.ireturn, 1) := by decide +kernel
theorem d_L_law_484 : decode code 484 = .ok (.iload 5, 2) := by decide +kernel
theorem d_L_law_486 : decode code 486 = .ok (.ifCond .ne (15), 3) := by decide +kernel
theorem d_L_law_489 : decode code 489 = .ok (.aload_n 3, 1) := by decide +kernel
theorem d_L_law_490 : decode code 490 = .ok (.iconst 0, 1) := by decide +kernel
theorem d_L_law_491 : decode code 491 = .ok (.laload, 1) := by decide +kernel
theorem d_L_law_492 : decode code 492 = .ok (.iload 6, 2) := by decide +kernel
theorem d_L_law_494 : decode code 494 = .ok (.i2l, 1) := by decide +kernel
theorem d_L_law_495 : decode code 495 = .ok (.lcmp, 1) := by decide +kernel
theorem d_L_law_496 : decode code 496 = .ok (.ifCond .eq (5), 3) := by decide +kernel
theorem d_L_law_499 : decode code 499 = .ok (.iconst 0, 1) := by decide +kernel
theorem d_L_law_500 : decode code 500 = .ok (.ireturn, 1) := by decide +kernel
theorem d_L_law_501 : decode code 501 = .ok (.goto (766), 3) := by decide +kernel
theorem d_L_law_504 : decode code 504 = .ok (.aload_n 1, 1) := by decide +kernel
theorem d_L_law_505 : decode code 505 = .ok (.invokevirtual 109, 3) := by decide +kernel
theorem d_L_law_508 : decode code 508 = .ok (.aload_n 2, 1) := by decide +kernel
theorem d_L_law_509 : decode code 509 = .ok (.invokevirtual 112, 3) := by decide +kernel
theorem d_L_law_512 : decode code 512 = .ok (.if_icmp .eq (755), 3) := by decide +kernel
theorem d_L_law_515 : decode code 515 = .ok (.iconst 0, 1) := by decide +kernel
theorem d_L_law_516 : decode code 516 = .ok (.ireturn, 1) := by decide +kernel
theorem d_L_law_517 : decode code 517 = .ok (.aload_n 1, 1) := by decide +kernel
theorem d_L_law_518 : decode code 518 = .ok (.invokestatic 113, 3) := by decide +kernel
theorem d_L_law_521 : decode code 521 = .ok (.istore 5, 2) := by decide +kernel
theorem d_L_law_523 : decode code 523 = .ok (.aload_n 2, 1) := by decide +kernel
theorem d_L_law_524 : decode code 524 = .ok (.invokevirtual 116, 3) := by decide +kernel
theorem d_L_law_527 : decode code 527 = .ok (.aload_n 2, 1) := by decide +kernel
theorem d_L_law_528 : decode code 528 = .ok (.invokevirtual 88, 3) := by decide +kernel
theorem d_L_law_531 : decode code 531 = .ok (.iload 5, 2) := by decide +kernel
theorem d_L_law_533 : decode code 533 = .ok (.if_icmp .eq (5), 3) := by decide +kernel
theorem d_L_law_536 : decode code 536 = .ok (.iconst 0, 1) := by decide +kernel
theorem d_L_law_537 : decode code 537 = .ok (.ireturn, 1) := by decide +kernel
theorem d_L_law_538 : decode code 538 = .ok (.goto (729), 3) := by decide +kernel
theorem d_L_law_541 : decode code 541 = .ok (.aload_n 1, 1) := by decide +kernel
theorem d_L_law_542 : decode code 542 = .ok (.aload_n 0, 1) := by decide +kernel
theorem d_L_law_543 : decode code 543 = .ok (.iload 4, 2) := by decide +kernel
theorem d_L_law_545 : decode code 545 = .ok (.iconst 1, 1) := by decide +kernel
theorem d_L_law_546 : decode code 546 = .ok (.iadd, 1) := by decide +kernel
theorem d_L_law_547 : decode code 547 = .ok (.iaload, 1) := by decide +kernel
theorem d_L_law_548 : decode code 548 = .ok (.aload_n 0, 1) := by decide +kernel
theorem d_L_law_549 : decode code 549 = .ok (.iload 4, 2) := by decide +kernel
theorem d_L_law_551 : decode code 551 = .ok (.iconst 2, 1) := by decide +kernel
theorem d_L_law_552 : decode code 552 = .ok (.iadd, 1) := by decide +kernel
theorem d_L_law_553 : decode code 553 = .ok (.iaload, 1) := by decide +kernel
theorem d_L_law_554 : decode code 554 = .ok (.aload_n 3, 1) := by decide +kernel
theorem d_L_law_555 : decode code 555 = .ok (.invokestatic 117, 3) := by decide +kernel
theorem d_L_law_558 : decode code 558 = .ok (.istore 5, 2) := by decide +kernel
theorem d_L_law_560 : decode code 560 = .ok (.aload_n 2, 1) := by decide +kernel
theorem d_L_law_561 : decode code 561 = .ok (.aload_n 0, 1) := by decide +kernel
theorem d_L_law_562 : decode code 562 = .ok (.iload 4, 2) := by decide +kernel
theorem d_L_law_564 : decode code 564 = .ok (.iconst 1, 1) := by decide +kernel
theorem d_L_law_565 : decode code 565 = .ok (.iadd, 1) := by decide +kernel
theorem d_L_law_566 : decode code 566 = .ok (.iaload, 1) := by decide +kernel
theorem d_L_law_567 : decode code 567 = .ok (.aload_n 0, 1) := by decide +kernel
theorem d_L_law_568 : decode code 568 = .ok (.iload 4, 2) := by decide +kernel
theorem d_L_law_570 : decode code 570 = .ok (.iconst 2, 1) := by decide +kernel
theorem d_L_law_571 : decode code 571 = .ok (.iadd, 1) := by decide +kernel
theorem d_L_law_572 : decode code 572 = .ok (.iaload, 1) := by decide +kernel
theorem d_L_law_573 : decode code 573 = .ok (.invokevirtual 119, 3) := by decide +kernel
theorem d_L_law_576 : decode code 576 = .ok (.istore 6, 2) := by decide +kernel
theorem d_L_law_578 : decode code 578 = .ok (.aload_n 2, 1) := by decide +kernel
theorem d_L_law_579 : decode code 579 = .ok (.invokevirtual 88, 3) := by decide +kernel
theorem d_L_law_582 : decode code 582 = .ok (.iload 5, 2) := by decide +kernel
theorem d_L_law_584 : decode code 584 = .ok (.if_icmp .eq (5), 3) := by decide +kernel
theorem d_L_law_587 : decode code 587 = .ok (.iconst 0, 1) := by decide +kernel
theorem d_L_law_588 : decode code 588 = .ok (.ireturn, 1) := by decide +kernel
theorem d_L_law_589 : decode code 589 = .ok (.iload 5, 2) := by decide +kernel
theorem d_L_law_591 : decode code 591 = .ok (.ifCond .ne (22), 3) := by decide +kernel
theorem d_L_law_594 : decode code 594 = .ok (.aload_n 3, 1) := by decide +kernel
theorem d_L_law_595 : decode code 595 = .ok (.iconst 0, 1) := by decide +kernel
theorem d_L_law_596 : decode code 596 = .ok (.laload, 1) := by decide +kernel
theorem d_L_law_597 : decode code 597 = .ok (.iload 6, 2) := by decide +kernel
theorem d_L_law_599 : decode code 599 = .ok (.ifCond .eq (7), 3) := by decide +kernel
theorem d_L_law_602 : decode code 602 = .ok (.lconst 1, 1) := by decide +kernel
theorem d_L_law_603 : decode code 603 = .ok (.goto (4), 3) := by decide +kernel
theorem d_L_law_606 : decode code 606 = .ok (.lconst 0, 1) := by decide +kernel
theorem d_L_law_607 : decode code 607 = .ok (.lcmp, 1) := by decide +kernel
theorem d_L_law_608 : decode code 608 = .ok (.ifCond .eq (5), 3) := by decide +kernel
theorem d_L_law_611 : decode code 611 = .ok (.iconst 0, 1) := by decide +kernel
theorem d_L_law_612 : decode code 612 = .ok (.ireturn, 1) := by decide +kernel
theorem d_L_law_613 : decode code 613 = .ok (.goto (654), 3) := by decide +kernel
theorem d_L_law_616 : decode code 616 = .ok (.aload_n 1, 1) := by decide +kernel
theorem d_L_law_617 : decode code 617 = .ok (.aload_n 0, 1) := by decide +kernel
theorem d_L_law_618 : decode code 618 = .ok (.iload 4, 2) := by decide +kernel
theorem d_L_law_620 : decode code 620 = .ok (.iconst 1, 1) := by decide +kernel
theorem d_L_law_621 : decode code 621 = .ok (.iadd, 1) := by decide +kernel
theorem d_L_law_622 : decode code 622 = .ok (.iaload, 1) := by decide +kernel
theorem d_L_law_623 : decode code 623 = .ok (.aload_n 3, 1) := by decide +kernel
theorem d_L_law_624 : decode code 624 = .ok (.invokestatic 120, 3) := by decide +kernel
theorem d_L_law_627 : decode code 627 = .ok (.istore 5, 2) := by decide +kernel
theorem d_L_law_629 : decode code 629 = .ok (.aload_n 2, 1) := by decide +kernel
theorem d_L_law_630 : decode code 630 = .ok (.aload_n 0, 1) := by decide +kernel
theorem d_L_law_631 : decode code 631 = .ok (.iload 4, 2) := by decide +kernel
theorem d_L_law_633 : decode code 633 = .ok (.iconst 1, 1) := by decide +kernel
theorem d_L_law_634 : decode code 634 = .ok (.iadd, 1) := by decide +kernel
theorem d_L_law_635 : decode code 635 = .ok (.iaload, 1) := by decide +kernel
theorem d_L_law_636 : decode code 636 = .ok (.invokevirtual 122, 3) := by decide +kernel
theorem d_L_law_639 : decode code 639 = .ok (.istore 6, 2) := by decide +kernel
theorem d_L_law_641 : decode code 641 = .ok (.aload_n 2, 1) := by decide +kernel
theorem d_L_law_642 : decode code 642 = .ok (.invokevirtual 88, 3) := by decide +kernel
theorem d_L_law_645 : decode code 645 = .ok (.iload 5, 2) := by decide +kernel
theorem d_L_law_647 : decode code 647 = .ok (.if_icmp .eq (5), 3) := by decide +kernel
theorem d_L_law_650 : decode code 650 = .ok (.iconst 0, 1) := by decide +kernel
theorem d_L_law_651 : decode code 651 = .ok (.ireturn, 1) := by decide +kernel
theorem d_L_law_652 : decode code 652 = .ok (.iload 5, 2) := by decide +kernel
theorem d_L_law_654 : decode code 654 = .ok (.ifCond .ne (15), 3) := by decide +kernel
theorem d_L_law_657 : decode code 657 = .ok (.aload_n 3, 1) := by decide +kernel
theorem d_L_law_658 : decode code 658 = .ok (.iconst 0, 1) := by decide +kernel
theorem d_L_law_659 : decode code 659 = .ok (.laload, 1) := by decide +kernel
theorem d_L_law_660 : decode code 660 = .ok (.iload 6, 2) := by decide +kernel
theorem d_L_law_662 : decode code 662 = .ok (.i2l, 1) := by decide +kernel
theorem d_L_law_663 : decode code 663 = .ok (.lcmp, 1) := by decide +kernel
theorem d_L_law_664 : decode code 664 = .ok (.ifCond .eq (5), 3) := by decide +kernel
theorem d_L_law_667 : decode code 667 = .ok (.iconst 0, 1) := by decide +kernel
theorem d_L_law_668 : decode code 668 = .ok (.ireturn, 1) := by decide +kernel
theorem d_L_law_669 : decode code 669 = .ok (.goto (598), 3) := by decide +kernel
theorem d_L_law_672 : decode code 672 = .ok (.aload_n 1, 1) := by decide +kernel
theorem d_L_law_673 : decode code 673 = .ok (.aload_n 0, 1) := by decide +kernel
theorem d_L_law_674 : decode code 674 = .ok (.iload 4, 2) := by decide +kernel
theorem d_L_law_676 : decode code 676 = .ok (.iconst 1, 1) := by decide +kernel
theorem d_L_law_677 : decode code 677 = .ok (.iadd, 1) := by decide +kernel
theorem d_L_law_678 : decode code 678 = .ok (.iaload, 1) := by decide +kernel
theorem d_L_law_679 : decode code 679 = .ok (.aload_n 0, 1) := by decide +kernel
theorem d_L_law_680 : decode code 680 = .ok (.iload 4, 2) := by decide +kernel
theorem d_L_law_682 : decode code 682 = .ok (.iconst 2, 1) := by decide +kernel
theorem d_L_law_683 : decode code 683 = .ok (.iadd, 1) := by decide +kernel
theorem d_L_law_684 : decode code 684 = .ok (.iaload, 1) := by decide +kernel
theorem d_L_law_685 : decode code 685 = .ok (.aload_n 3, 1) := by decide +kernel
theorem d_L_law_686 : decode code 686 = .ok (.invokestatic 123, 3) := by decide +kernel
theorem d_L_law_689 : decode code 689 = .ok (.istore 5, 2) := by decide +kernel
theorem d_L_law_691 : decode code 691 = .ok (.aload_n 2, 1) := by decide +kernel
theorem d_L_law_692 : decode code 692 = .ok (.aload_n 0, 1) := by decide +kernel
theorem d_L_law_693 : decode code 693 = .ok (.iload 4, 2) := by decide +kernel
theorem d_L_law_695 : decode code 695 = .ok (.iconst 1, 1) := by decide +kernel
theorem d_L_law_696 : decode code 696 = .ok (.iadd, 1) := by decide +kernel
theorem d_L_law_697 : decode code 697 = .ok (.iaload, 1) := by decide +kernel
theorem d_L_law_698 : decode code 698 = .ok (.aload_n 0, 1) := by decide +kernel
theorem d_L_law_699 : decode code 699 = .ok (.iload 4, 2) := by decide +kernel
theorem d_L_law_701 : decode code 701 = .ok (.iconst 2, 1) := by decide +kernel
theorem d_L_law_702 : decode code 702 = .ok (.iadd, 1) := by decide +kernel
theorem d_L_law_703 : decode code 703 = .ok (.iaload, 1) := by decide +kernel
theorem d_L_law_704 : decode code 704 = .ok (.invokevirtual 125, 3) := by decide +kernel
theorem d_L_law_707 : decode code 707 = .ok (.istore 6, 2) := by decide +kernel
theorem d_L_law_709 : decode code 709 = .ok (.aload_n 2, 1) := by decide +kernel
theorem d_L_law_710 : decode code 710 = .ok (.invokevirtual 88, 3) := by decide +kernel
theorem d_L_law_713 : decode code 713 = .ok (.iload 5, 2) := by decide +kernel
theorem d_L_law_715 : decode code 715 = .ok (.if_icmp .eq (5), 3) := by decide +kernel
theorem d_L_law_718 : decode code 718 = .ok (.iconst 0, 1) := by decide +kernel
theorem d_L_law_719 : decode code 719 = .ok (.ireturn, 1) := by decide +kernel
theorem d_L_law_720 : decode code 720 = .ok (.iload 5, 2) := by decide +kernel
theorem d_L_law_722 : decode code 722 = .ok (.ifCond .ne (15), 3) := by decide +kernel
theorem d_L_law_725 : decode code 725 = .ok (.aload_n 3, 1) := by decide +kernel
theorem d_L_law_726 : decode code 726 = .ok (.iconst 0, 1) := by decide +kernel
theorem d_L_law_727 : decode code 727 = .ok (.laload, 1) := by decide +kernel
theorem d_L_law_728 : decode code 728 = .ok (.iload 6, 2) := by decide +kernel
theorem d_L_law_730 : decode code 730 = .ok (.i2l, 1) := by decide +kernel
theorem d_L_law_731 : decode code 731 = .ok (.lcmp, 1) := by decide +kernel
theorem d_L_law_732 : decode code 732 = .ok (.ifCond .eq (5), 3) := by decide +kernel
theorem d_L_law_735 : decode code 735 = .ok (.iconst 0, 1) := by decide +kernel
theorem d_L_law_736 : decode code 736 = .ok (.ireturn, 1) := by decide +kernel
theorem d_L_law_737 : decode code 737 = .ok (.goto (530), 3) := by decide +kernel
theorem d_L_law_740 : decode code 740 = .ok (.aload_n 1, 1) := by decide +kernel
theorem d_L_law_741 : decode code 741 = .ok (.aload_n 3, 1) := by decide +kernel
theorem d_L_law_742 : decode code 742 = .ok (.invokestatic 126, 3) := by decide +kernel
theorem d_L_law_745 : decode code 745 = .ok (.istore 5, 2) := by decide +kernel
theorem d_L_law_747 : decode code 747 = .ok (.aload_n 2, 1) := by decide +kernel
theorem d_L_law_748 : decode code 748 = .ok (.invokevirtual 128, 3) := by decide +kernel
theorem d_L_law_751 : decode code 751 = .ok (.istore 6, 2) := by decide +kernel
theorem d_L_law_753 : decode code 753 = .ok (.aload_n 2, 1) := by decide +kernel
theorem d_L_law_754 : decode code 754 = .ok (.invokevirtual 88, 3) := by decide +kernel
theorem d_L_law_757 : decode code 757 = .ok (.iload 5, 2) := by decide +kernel
theorem d_L_law_759 : decode code 759 = .ok (.if_icmp .eq (5), 3) := by decide +kernel
theorem d_L_law_762 : decode code 762 = .ok (.iconst 0, 1) := by decide +kernel
theorem d_L_law_763 : decode code 763 = .ok (.ireturn, 1) := by decide +kernel
theorem d_L_law_764 : decode code 764 = .ok (.iload 5, 2) := by decide +kernel
theorem d_L_law_766 : decode code 766 = .ok (.ifCond .ne (15), 3) := by decide +kernel
theorem d_L_law_769 : decode code 769 = .ok (.aload_n 3, 1) := by decide +kernel
theorem d_L_law_770 : decode code 770 = .ok (.iconst 0, 1) := by decide +kernel
theorem d_L_law_771 : decode code 771 = .ok (.laload, 1) := by decide +kernel
theorem d_L_law_772 : decode code 772 = .ok (.iload 6, 2) := by decide +kernel
theorem d_L_law_774 : decode code 774 = .ok (.i2l, 1) := by decide +kernel
theorem d_L_law_775 : decode code 775 = .ok (.lcmp, 1) := by decide +kernel
theorem d_L_law_776 : decode code 776 = .ok (.ifCond .eq (5), 3) := by decide +kernel
theorem d_L_law_779 : decode code 779 = .ok (.iconst 0, 1) := by decide +kernel
theorem d_L_law_780 : decode code 780 = .ok (.ireturn, 1) := by decide +kernel
theorem d_L_law_781 : decode code 781 = .ok (.goto (486), 3) := by decide +kernel
theorem d_L_law_784 : decode code 784 = .ok (.aload_n 1, 1) := by decide +kernel
theorem d_L_law_785 : decode code 785 = .ok (.aload_n 0, 1) := by decide +kernel
theorem d_L_law_786 : decode code 786 = .ok (.iload 4, 2) := by decide +kernel
theorem d_L_law_788 : decode code 788 = .ok (.iconst 1, 1) := by decide +kernel
theorem d_L_law_789 : decode code 789 = .ok (.iadd, 1) := by decide +kernel
theorem d_L_law_790 : decode code 790 = .ok (.iaload, 1) := by decide +kernel
theorem d_L_law_791 : decode code 791 = .ok (.aload_n 3, 1) := by decide +kernel
theorem d_L_law_792 : decode code 792 = .ok (.invokestatic 129, 3) := by decide +kernel
theorem d_L_law_795 : decode code 795 = .ok (.istore 5, 2) := by decide +kernel
theorem d_L_law_797 : decode code 797 = .ok (.aload_n 2, 1) := by decide +kernel
theorem d_L_law_798 : decode code 798 = .ok (.aload_n 0, 1) := by decide +kernel
theorem d_L_law_799 : decode code 799 = .ok (.iload 4, 2) := by decide +kernel
theorem d_L_law_801 : decode code 801 = .ok (.iconst 1, 1) := by decide +kernel
theorem d_L_law_802 : decode code 802 = .ok (.iadd, 1) := by decide +kernel
theorem d_L_law_803 : decode code 803 = .ok (.iaload, 1) := by decide +kernel
theorem d_L_law_804 : decode code 804 = .ok (.invokevirtual 131, 3) := by decide +kernel
theorem d_L_law_807 : decode code 807 = .ok (.istore 6, 2) := by decide +kernel
theorem d_L_law_809 : decode code 809 = .ok (.aload_n 2, 1) := by decide +kernel
theorem d_L_law_810 : decode code 810 = .ok (.invokevirtual 88, 3) := by decide +kernel
theorem d_L_law_813 : decode code 813 = .ok (.iload 5, 2) := by decide +kernel
theorem d_L_law_815 : decode code 815 = .ok (.if_icmp .eq (5), 3) := by decide +kernel
theorem d_L_law_818 : decode code 818 = .ok (.iconst 0, 1) := by decide +kernel
theorem d_L_law_819 : decode code 819 = .ok (.ireturn, 1) := by decide +kernel
theorem d_L_law_820 : decode code 820 = .ok (.iload 5, 2) := by decide +kernel
theorem d_L_law_822 : decode code 822 = .ok (.ifCond .ne (15), 3) := by decide +kernel
theorem d_L_law_825 : decode code 825 = .ok (.aload_n 3, 1) := by decide +kernel
theorem d_L_law_826 : decode code 826 = .ok (.iconst 0, 1) := by decide +kernel
theorem d_L_law_827 : decode code 827 = .ok (.laload, 1) := by decide +kernel
theorem d_L_law_828 : decode code 828 = .ok (.iload 6, 2) := by decide +kernel
theorem d_L_law_830 : decode code 830 = .ok (.i2l, 1) := by decide +kernel
theorem d_L_law_831 : decode code 831 = .ok (.lcmp, 1) := by decide +kernel
theorem d_L_law_832 : decode code 832 = .ok (.ifCond .eq (5), 3) := by decide +kernel
theorem d_L_law_835 : decode code 835 = .ok (.iconst 0, 1) := by decide +kernel
theorem d_L_law_836 : decode code 836 = .ok (.ireturn, 1) := by decide +kernel
theorem d_L_law_837 : decode code 837 = .ok (.goto (430), 3) := by decide +kernel
theorem d_L_law_840 : decode code 840 = .ok (.aload_n 1, 1) := by decide +kernel
theorem d_L_law_841 : decode code 841 = .ok (.aload_n 0, 1) := by decide +kernel
theorem d_L_law_842 : decode code 842 = .ok (.iload 4, 2) := by decide +kernel
theorem d_L_law_844 : decode code 844 = .ok (.iconst 1, 1) := by decide +kernel
theorem d_L_law_845 : decode code 845 = .ok (.iadd, 1) := by decide +kernel
theorem d_L_law_846 : decode code 846 = .ok (.iaload, 1) := by decide +kernel
theorem d_L_law_847 : decode code 847 = .ok (.aload_n 3, 1) := by decide +kernel
theorem d_L_law_848 : decode code 848 = .ok (.invokestatic 132, 3) := by decide +kernel
theorem d_L_law_851 : decode code 851 = .ok (.istore 5, 2) := by decide +kernel
theorem d_L_law_853 : decode code 853 = .ok (.aload_n 2, 1) := by decide +kernel
theorem d_L_law_854 : decode code 854 = .ok (.aload_n 0, 1) := by decide +kernel
theorem d_L_law_855 : decode code 855 = .ok (.iload 4, 2) := by decide +kernel
theorem d_L_law_857 : decode code 857 = .ok (.iconst 1, 1) := by decide +kernel
theorem d_L_law_858 : decode code 858 = .ok (.iadd, 1) := by decide +kernel
theorem d_L_law_859 : decode code 859 = .ok (.iaload, 1) := by decide +kernel
theorem d_L_law_860 : decode code 860 = .ok (.invokevirtual 134, 3) := by decide +kernel
theorem d_L_law_863 : decode code 863 = .ok (.istore 6, 2) := by decide +kernel
theorem d_L_law_865 : decode code 865 = .ok (.aload_n 2, 1) := by decide +kernel
theorem d_L_law_866 : decode code 866 = .ok (.invokevirtual 88, 3) := by decide +kernel
theorem d_L_law_869 : decode code 869 = .ok (.iload 5, 2) := by decide +kernel
theorem d_L_law_871 : decode code 871 = .ok (.if_icmp .eq (5), 3) := by decide +kernel
theorem d_L_law_874 : decode code 874 = .ok (.iconst 0, 1) := by decide +kernel
theorem d_L_law_875 : decode code 875 = .ok (.ireturn, 1) := by decide +kernel
theorem d_L_law_876 : decode code 876 = .ok (.iload 5, 2) := by decide +kernel
theorem d_L_law_878 : decode code 878 = .ok (.ifCond .ne (15), 3) := by decide +kernel
theorem d_L_law_881 : decode code 881 = .ok (.aload_n 3, 1) := by decide +kernel
theorem d_L_law_882 : decode code 882 = .ok (.iconst 0, 1) := by decide +kernel
theorem d_L_law_883 : decode code 883 = .ok (.laload, 1) := by decide +kernel
theorem d_L_law_884 : decode code 884 = .ok (.iload 6, 2) := by decide +kernel
theorem d_L_law_886 : decode code 886 = .ok (.i2l, 1) := by decide +kernel
theorem d_L_law_887 : decode code 887 = .ok (.lcmp, 1) := by decide +kernel
theorem d_L_law_888 : decode code 888 = .ok (.ifCond .eq (5), 3) := by decide +kernel
theorem d_L_law_891 : decode code 891 = .ok (.iconst 0, 1) := by decide +kernel
theorem d_L_law_892 : decode code 892 = .ok (.ireturn, 1) := by decide +kernel
theorem d_L_law_893 : decode code 893 = .ok (.goto (374), 3) := by decide +kernel
theorem d_L_law_896 : decode code 896 = .ok (.aload_n 1, 1) := by decide +kernel
theorem d_L_law_897 : decode code 897 = .ok (.aload_n 0, 1) := by decide +kernel
theorem d_L_law_898 : decode code 898 = .ok (.iload 4, 2) := by decide +kernel
theorem d_L_law_900 : decode code 900 = .ok (.iconst 1, 1) := by decide +kernel
theorem d_L_law_901 : decode code 901 = .ok (.iadd, 1) := by decide +kernel
theorem d_L_law_902 : decode code 902 = .ok (.iaload, 1) := by decide +kernel
theorem d_L_law_903 : decode code 903 = .ok (.aload_n 0, 1) := by decide +kernel
theorem d_L_law_904 : decode code 904 = .ok (.iload 4, 2) := by decide +kernel
theorem d_L_law_906 : decode code 906 = .ok (.iconst 2, 1) := by decide +kernel
theorem d_L_law_907 : decode code 907 = .ok (.iadd, 1) := by decide +kernel
theorem d_L_law_908 : decode code 908 = .ok (.iaload, 1) := by decide +kernel
theorem d_L_law_909 : decode code 909 = .ok (.aload_n 3, 1) := by decide +kernel
theorem d_L_law_910 : decode code 910 = .ok (.invokestatic 135, 3) := by decide +kernel
theorem d_L_law_913 : decode code 913 = .ok (.istore 5, 2) := by decide +kernel
theorem d_L_law_915 : decode code 915 = .ok (.aload_n 2, 1) := by decide +kernel
theorem d_L_law_916 : decode code 916 = .ok (.aload_n 0, 1) := by decide +kernel
theorem d_L_law_917 : decode code 917 = .ok (.iload 4, 2) := by decide +kernel
theorem d_L_law_919 : decode code 919 = .ok (.iconst 1, 1) := by decide +kernel
theorem d_L_law_920 : decode code 920 = .ok (.iadd, 1) := by decide +kernel
theorem d_L_law_921 : decode code 921 = .ok (.iaload, 1) := by decide +kernel
theorem d_L_law_922 : decode code 922 = .ok (.aload_n 0, 1) := by decide +kernel
theorem d_L_law_923 : decode code 923 = .ok (.iload 4, 2) := by decide +kernel
theorem d_L_law_925 : decode code 925 = .ok (.iconst 2, 1) := by decide +kernel
theorem d_L_law_926 : decode code 926 = .ok (.iadd, 1) := by decide +kernel
theorem d_L_law_927 : decode code 927 = .ok (.iaload, 1) := by decide +kernel
theorem d_L_law_928 : decode code 928 = .ok (.invokevirtual 137, 3) := by decide +kernel
theorem d_L_law_931 : decode code 931 = .ok (.istore 6, 2) := by decide +kernel
theorem d_L_law_933 : decode code 933 = .ok (.aload_n 2, 1) := by decide +kernel
theorem d_L_law_934 : decode code 934 = .ok (.invokevirtual 88, 3) := by decide +kernel
theorem d_L_law_937 : decode code 937 = .ok (.iload 5, 2) := by decide +kernel
theorem d_L_law_939 : decode code 939 = .ok (.if_icmp .eq (5), 3) := by decide +kernel
theorem d_L_law_942 : decode code 942 = .ok (.iconst 0, 1) := by decide +kernel
theorem d_L_law_943 : decode code 943 = .ok (.ireturn, 1) := by decide +kernel
theorem d_L_law_944 : decode code 944 = .ok (.iload 5, 2) := by decide +kernel
theorem d_L_law_946 : decode code 946 = .ok (.ifCond .ne (15), 3) := by decide +kernel
theorem d_L_law_949 : decode code 949 = .ok (.aload_n 3, 1) := by decide +kernel
theorem d_L_law_950 : decode code 950 = .ok (.iconst 0, 1) := by decide +kernel
theorem d_L_law_951 : decode code 951 = .ok (.laload, 1) := by decide +kernel
theorem d_L_law_952 : decode code 952 = .ok (.iload 6, 2) := by decide +kernel
theorem d_L_law_954 : decode code 954 = .ok (.i2l, 1) := by decide +kernel
theorem d_L_law_955 : decode code 955 = .ok (.lcmp, 1) := by decide +kernel
theorem d_L_law_956 : decode code 956 = .ok (.ifCond .eq (5), 3) := by decide +kernel
theorem d_L_law_959 : decode code 959 = .ok (.iconst 0, 1) := by decide +kernel
theorem d_L_law_960 : decode code 960 = .ok (.ireturn, 1) := by decide +kernel
theorem d_L_law_961 : decode code 961 = .ok (.goto (306), 3) := by decide +kernel
theorem d_L_law_964 : decode code 964 = .ok (.aload_n 1, 1) := by decide +kernel
theorem d_L_law_965 : decode code 965 = .ok (.aload_n 0, 1) := by decide +kernel
theorem d_L_law_966 : decode code 966 = .ok (.iload 4, 2) := by decide +kernel
theorem d_L_law_968 : decode code 968 = .ok (.iconst 1, 1) := by decide +kernel
theorem d_L_law_969 : decode code 969 = .ok (.iadd, 1) := by decide +kernel
theorem d_L_law_970 : decode code 970 = .ok (.iaload, 1) := by decide +kernel
theorem d_L_law_971 : decode code 971 = .ok (.aload_n 3, 1) := by decide +kernel
theorem d_L_law_972 : decode code 972 = .ok (.invokestatic 138, 3) := by decide +kernel
theorem d_L_law_975 : decode code 975 = .ok (.istore 5, 2) := by decide +kernel
theorem d_L_law_977 : decode code 977 = .ok (.aload_n 2, 1) := by decide +kernel
theorem d_L_law_978 : decode code 978 = .ok (.aload_n 0, 1) := by decide +kernel
theorem d_L_law_979 : decode code 979 = .ok (.iload 4, 2) := by decide +kernel
theorem d_L_law_981 : decode code 981 = .ok (.iconst 1, 1) := by decide +kernel
theorem d_L_law_982 : decode code 982 = .ok (.iadd, 1) := by decide +kernel
theorem d_L_law_983 : decode code 983 = .ok (.iaload, 1) := by decide +kernel
theorem d_L_law_984 : decode code 984 = .ok (.invokevirtual 140, 3) := by decide +kernel
theorem d_L_law_987 : decode code 987 = .ok (.istore 6, 2) := by decide +kernel
theorem d_L_law_989 : decode code 989 = .ok (.aload_n 2, 1) := by decide +kernel
theorem d_L_law_990 : decode code 990 = .ok (.invokevirtual 88, 3) := by decide +kernel
theorem d_L_law_993 : decode code 993 = .ok (.iload 5, 2) := by decide +kernel
theorem d_L_law_995 : decode code 995 = .ok (.if_icmp .eq (5), 3) := by decide +kernel
theorem d_L_law_998 : decode code 998 = .ok (.iconst 0, 1) := by decide +kernel
theorem d_L_law_999 : decode code 999 = .ok (.ireturn, 1) := by decide +kernel
theorem d_L_law_1000 : decode code 1000 = .ok (.iload 5, 2) := by decide +kernel
theorem d_L_law_1002 : decode code 1002 = .ok (.ifCond .ne (15), 3) := by decide +kernel
theorem d_L_law_1005 : decode code 1005 = .ok (.aload_n 3, 1) := by decide +kernel
theorem d_L_law_1006 : decode code 1006 = .ok (.iconst 0, 1) := by decide +kernel
theorem d_L_law_1007 : decode code 1007 = .ok (.laload, 1) := by decide +kernel
theorem d_L_law_1008 : decode code 1008 = .ok (.iload 6, 2) := by decide +kernel
theorem d_L_law_1010 : decode code 1010 = .ok (.i2l, 1) := by decide +kernel
theorem d_L_law_1011 : decode code 1011 = .ok (.lcmp, 1) := by decide +kernel
theorem d_L_law_1012 : decode code 1012 = .ok (.ifCond .eq (5), 3) := by decide +kernel
theorem d_L_law_1015 : decode code 1015 = .ok (.iconst 0, 1) := by decide +kernel
theorem d_L_law_1016 : decode code 1016 = .ok (.ireturn, 1) := by decide +kernel
theorem d_L_law_1017 : decode code 1017 = .ok (.goto (250), 3) := by decide +kernel
theorem d_L_law_1020 : decode code 1020 = .ok (.aload_n 1, 1) := by decide +kernel
theorem d_L_law_1021 : decode code 1021 = .ok (.aload_n 0, 1) := by decide +kernel
theorem d_L_law_1022 : decode code 1022 = .ok (.iload 4, 2) := by decide +kernel
theorem d_L_law_1024 : decode code 1024 = .ok (.iconst 1, 1) := by decide +kernel
theorem d_L_law_1025 : decode code 1025 = .ok (.iadd, 1) := by decide +kernel
theorem d_L_law_1026 : decode code 1026 = .ok (.iaload, 1) := by decide +kernel
theorem d_L_law_1027 : decode code 1027 = .ok (.aload_n 3, 1) := by decide +kernel
theorem d_L_law_1028 : decode code 1028 = .ok (.invokestatic 141, 3) := by decide +kernel
theorem d_L_law_1031 : decode code 1031 = .ok (.istore 5, 2) := by decide +kernel
theorem d_L_law_1033 : decode code 1033 = .ok (.aload_n 2, 1) := by decide +kernel
theorem d_L_law_1034 : decode code 1034 = .ok (.aload_n 0, 1) := by decide +kernel
theorem d_L_law_1035 : decode code 1035 = .ok (.iload 4, 2) := by decide +kernel
theorem d_L_law_1037 : decode code 1037 = .ok (.iconst 1, 1) := by decide +kernel
theorem d_L_law_1038 : decode code 1038 = .ok (.iadd, 1) := by decide +kernel
theorem d_L_law_1039 : decode code 1039 = .ok (.iaload, 1) := by decide +kernel
theorem d_L_law_1040 : decode code 1040 = .ok (.invokevirtual 143, 3) := by decide +kernel
theorem d_L_law_1043 : decode code 1043 = .ok (.istore 6, 2) := by decide +kernel
theorem d_L_law_1045 : decode code 1045 = .ok (.aload_n 2, 1) := by decide +kernel
theorem d_L_law_1046 : decode code 1046 = .ok (.invokevirtual 88, 3) := by decide +kernel
theorem d_L_law_1049 : decode code 1049 = .ok (.iload 5, 2) := by decide +kernel
theorem d_L_law_1051 : decode code 1051 = .ok (.if_icmp .eq (5), 3) := by decide +kernel
theorem d_L_law_1054 : decode code 1054 = .ok (.iconst 0, 1) := by decide +kernel
theorem d_L_law_1055 : decode code 1055 = .ok (.ireturn, 1) := by decide +kernel
theorem d_L_law_1056 : decode code 1056 = .ok (.iload 5, 2) := by decide +kernel
theorem d_L_law_1058 : decode code 1058 = .ok (.ifCond .ne (15), 3) := by decide +kernel
theorem d_L_law_1061 : decode code 1061 = .ok (.aload_n 3, 1) := by decide +kernel
theorem d_L_law_1062 : decode code 1062 = .ok (.iconst 0, 1) := by decide +kernel
theorem d_L_law_1063 : decode code 1063 = .ok (.laload, 1) := by decide +kernel
theorem d_L_law_1064 : decode code 1064 = .ok (.iload 6, 2) := by decide +kernel
theorem d_L_law_1066 : decode code 1066 = .ok (.i2l, 1) := by decide +kernel
theorem d_L_law_1067 : decode code 1067 = .ok (.lcmp, 1) := by decide +kernel
theorem d_L_law_1068 : decode code 1068 = .ok (.ifCond .eq (5), 3) := by decide +kernel
theorem d_L_law_1071 : decode code 1071 = .ok (.iconst 0, 1) := by decide +kernel
theorem d_L_law_1072 : decode code 1072 = .ok (.ireturn, 1) := by decide +kernel
theorem d_L_law_1073 : decode code 1073 = .ok (.goto (194), 3) := by decide +kernel
theorem d_L_law_1076 : decode code 1076 = .ok (.aload_n 1, 1) := by decide +kernel
theorem d_L_law_1077 : decode code 1077 = .ok (.aload_n 0, 1) := by decide +kernel
theorem d_L_law_1078 : decode code 1078 = .ok (.iload 4, 2) := by decide +kernel
theorem d_L_law_1080 : decode code 1080 = .ok (.iconst 1, 1) := by decide +kernel
theorem d_L_law_1081 : decode code 1081 = .ok (.iadd, 1) := by decide +kernel
theorem d_L_law_1082 : decode code 1082 = .ok (.iaload, 1) := by decide +kernel
theorem d_L_law_1083 : decode code 1083 = .ok (.aload_n 0, 1) := by decide +kernel
theorem d_L_law_1084 : decode code 1084 = .ok (.iload 4, 2) := by decide +kernel
theorem d_L_law_1086 : decode code 1086 = .ok (.iconst 2, 1) := by decide +kernel
theorem d_L_law_1087 : decode code 1087 = .ok (.iadd, 1) := by decide +kernel
theorem d_L_law_1088 : decode code 1088 = .ok (.iaload, 1) := by decide +kernel
theorem d_L_law_1089 : decode code 1089 = .ok (.aload_n 3, 1) := by decide +kernel
theorem d_L_law_1090 : decode code 1090 = .ok (.invokestatic 144, 3) := by decide +kernel
theorem d_L_law_1093 : decode code 1093 = .ok (.istore 5, 2) := by decide +kernel
theorem d_L_law_1095 : decode code 1095 = .ok (.aload_n 2, 1) := by decide +kernel
theorem d_L_law_1096 : decode code 1096 = .ok (.aload_n 0, 1) := by decide +kernel
theorem d_L_law_1097 : decode code 1097 = .ok (.iload 4, 2) := by decide +kernel
theorem d_L_law_1099 : decode code 1099 = .ok (.iconst 1, 1) := by decide +kernel
theorem d_L_law_1100 : decode code 1100 = .ok (.iadd, 1) := by decide +kernel
theorem d_L_law_1101 : decode code 1101 = .ok (.iaload, 1) := by decide +kernel
theorem d_L_law_1102 : decode code 1102 = .ok (.aload_n 0, 1) := by decide +kernel
theorem d_L_law_1103 : decode code 1103 = .ok (.iload 4, 2) := by decide +kernel
theorem d_L_law_1105 : decode code 1105 = .ok (.iconst 2, 1) := by decide +kernel
theorem d_L_law_1106 : decode code 1106 = .ok (.iadd, 1) := by decide +kernel
theorem d_L_law_1107 : decode code 1107 = .ok (.iaload, 1) := by decide +kernel
theorem d_L_law_1108 : decode code 1108 = .ok (.invokevirtual 146, 3) := by decide +kernel
theorem d_L_law_1111 : decode code 1111 = .ok (.lstore 6, 2) := by decide +kernel
theorem d_L_law_1113 : decode code 1113 = .ok (.aload_n 2, 1) := by decide +kernel
theorem d_L_law_1114 : decode code 1114 = .ok (.invokevirtual 88, 3) := by decide +kernel
theorem d_L_law_1117 : decode code 1117 = .ok (.iload 5, 2) := by decide +kernel
theorem d_L_law_1119 : decode code 1119 = .ok (.if_icmp .eq (5), 3) := by decide +kernel
theorem d_L_law_1122 : decode code 1122 = .ok (.iconst 0, 1) := by decide +kernel
theorem d_L_law_1123 : decode code 1123 = .ok (.ireturn, 1) := by decide +kernel
theorem d_L_law_1124 : decode code 1124 = .ok (.iload 5, 2) := by decide +kernel
theorem d_L_law_1126 : decode code 1126 = .ok (.ifCond .ne (14), 3) := by decide +kernel
theorem d_L_law_1129 : decode code 1129 = .ok (.aload_n 3, 1) := by decide +kernel
theorem d_L_law_1130 : decode code 1130 = .ok (.iconst 0, 1) := by decide +kernel
theorem d_L_law_1131 : decode code 1131 = .ok (.laload, 1) := by decide +kernel
theorem d_L_law_1132 : decode code 1132 = .ok (.lload 6, 2) := by decide +kernel
theorem d_L_law_1134 : decode code 1134 = .ok (.lcmp, 1) := by decide +kernel
theorem d_L_law_1135 : decode code 1135 = .ok (.ifCond .eq (5), 3) := by decide +kernel
theorem d_L_law_1138 : decode code 1138 = .ok (.iconst 0, 1) := by decide +kernel
theorem d_L_law_1139 : decode code 1139 = .ok (.ireturn, 1) := by decide +kernel
theorem d_L_law_1140 : decode code 1140 = .ok (.goto (127), 3) := by decide +kernel
theorem d_L_law_1143 : decode code 1143 = .ok (.aload_n 1, 1) := by decide +kernel
theorem d_L_law_1144 : decode code 1144 = .ok (.aload_n 0, 1) := by decide +kernel
theorem d_L_law_1145 : decode code 1145 = .ok (.iload 4, 2) := by decide +kernel
theorem d_L_law_1147 : decode code 1147 = .ok (.iconst 1, 1) := by decide +kernel
theorem d_L_law_1148 : decode code 1148 = .ok (.iadd, 1) := by decide +kernel
theorem d_L_law_1149 : decode code 1149 = .ok (.iaload, 1) := by decide +kernel
theorem d_L_law_1150 : decode code 1150 = .ok (.aload_n 0, 1) := by decide +kernel
theorem d_L_law_1151 : decode code 1151 = .ok (.iload 4, 2) := by decide +kernel
theorem d_L_law_1153 : decode code 1153 = .ok (.iconst 2, 1) := by decide +kernel
theorem d_L_law_1154 : decode code 1154 = .ok (.iadd, 1) := by decide +kernel
theorem d_L_law_1155 : decode code 1155 = .ok (.iaload, 1) := by decide +kernel
theorem d_L_law_1156 : decode code 1156 = .ok (.aload_n 3, 1) := by decide +kernel
theorem d_L_law_1157 : decode code 1157 = .ok (.invokestatic 147, 3) := by decide +kernel
theorem d_L_law_1160 : decode code 1160 = .ok (.istore 5, 2) := by decide +kernel
theorem d_L_law_1162 : decode code 1162 = .ok (.aload_n 2, 1) := by decide +kernel
theorem d_L_law_1163 : decode code 1163 = .ok (.aload_n 0, 1) := by decide +kernel
theorem d_L_law_1164 : decode code 1164 = .ok (.iload 4, 2) := by decide +kernel
theorem d_L_law_1166 : decode code 1166 = .ok (.iconst 1, 1) := by decide +kernel
theorem d_L_law_1167 : decode code 1167 = .ok (.iadd, 1) := by decide +kernel
theorem d_L_law_1168 : decode code 1168 = .ok (.iaload, 1) := by decide +kernel
theorem d_L_law_1169 : decode code 1169 = .ok (.aload_n 0, 1) := by decide +kernel
theorem d_L_law_1170 : decode code 1170 = .ok (.iload 4, 2) := by decide +kernel
theorem d_L_law_1172 : decode code 1172 = .ok (.iconst 2, 1) := by decide +kernel
theorem d_L_law_1173 : decode code 1173 = .ok (.iadd, 1) := by decide +kernel
theorem d_L_law_1174 : decode code 1174 = .ok (.iaload, 1) := by decide +kernel
theorem d_L_law_1175 : decode code 1175 = .ok (.invokevirtual 149, 3) := by decide +kernel
theorem d_L_law_1178 : decode code 1178 = .ok (.istore 6, 2) := by decide +kernel
theorem d_L_law_1180 : decode code 1180 = .ok (.aload_n 2, 1) := by decide +kernel
theorem d_L_law_1181 : decode code 1181 = .ok (.invokevirtual 88, 3) := by decide +kernel
theorem d_L_law_1184 : decode code 1184 = .ok (.iload 5, 2) := by decide +kernel
theorem d_L_law_1186 : decode code 1186 = .ok (.if_icmp .eq (5), 3) := by decide +kernel
theorem d_L_law_1189 : decode code 1189 = .ok (.iconst 0, 1) := by decide +kernel
theorem d_L_law_1190 : decode code 1190 = .ok (.ireturn, 1) := by decide +kernel
theorem d_L_law_1191 : decode code 1191 = .ok (.iload 5, 2) := by decide +kernel
theorem d_L_law_1193 : decode code 1193 = .ok (.ifCond .ne (15), 3) := by decide +kernel
theorem d_L_law_1196 : decode code 1196 = .ok (.aload_n 3, 1) := by decide +kernel
theorem d_L_law_1197 : decode code 1197 = .ok (.iconst 0, 1) := by decide +kernel
theorem d_L_law_1198 : decode code 1198 = .ok (.laload, 1) := by decide +kernel
theorem d_L_law_1199 : decode code 1199 = .ok (.iload 6, 2) := by decide +kernel
theorem d_L_law_1201 : decode code 1201 = .ok (.i2l, 1) := by decide +kernel
theorem d_L_law_1202 : decode code 1202 = .ok (.lcmp, 1) := by decide +kernel
theorem d_L_law_1203 : decode code 1203 = .ok (.ifCond .eq (5), 3) := by decide +kernel
theorem d_L_law_1206 : decode code 1206 = .ok (.iconst 0, 1) := by decide +kernel
theorem d_L_law_1207 : decode code 1207 = .ok (.ireturn, 1) := by decide +kernel
theorem d_L_law_1208 : decode code 1208 = .ok (.goto (59), 3) := by decide +kernel
theorem d_L_law_1211 : decode code 1211 = .ok (.aload_n 1, 1) := by decide +kernel
theorem d_L_law_1212 : decode code 1212 = .ok (.aload_n 0, 1) := by decide +kernel
theorem d_L_law_1213 : decode code 1213 = .ok (.iload 4, 2) := by decide +kernel
theorem d_L_law_1215 : decode code 1215 = .ok (.iconst 1, 1) := by decide +kernel
theorem d_L_law_1216 : decode code 1216 = .ok (.iadd, 1) := by decide +kernel
theorem d_L_law_1217 : decode code 1217 = .ok (.iaload, 1) := by decide +kernel
theorem d_L_law_1218 : decode code 1218 = .ok (.aload_n 3, 1) := by decide +kernel
theorem d_L_law_1219 : decode code 1219 = .ok (.invokestatic 150, 3) := by decide +kernel
theorem d_L_law_1222 : decode code 1222 = .ok (.istore 5, 2) := by decide +kernel
theorem d_L_law_1224 : decode code 1224 = .ok (.aload_n 2, 1) := by decide +kernel
theorem d_L_law_1225 : decode code 1225 = .ok (.aload_n 0, 1) := by decide +kernel
theorem d_L_law_1226 : decode code 1226 = .ok (.iload 4, 2) := by decide +kernel
theorem d_L_law_1228 : decode code 1228 = .ok (.iconst 1, 1) := by decide +kernel
theorem d_L_law_1229 : decode code 1229 = .ok (.iadd, 1) := by decide +kernel
theorem d_L_law_1230 : decode code 1230 = .ok (.iaload, 1) := by decide +kernel
theorem d_L_law_1231 : decode code 1231 = .ok (.invokevirtual 152, 3) := by decide +kernel
theorem d_L_law_1234 : decode code 1234 = .ok (.istore 6, 2) := by decide +kernel
theorem d_L_law_1236 : decode code 1236 = .ok (.aload_n 2, 1) := by decide +kernel
theorem d_L_law_1237 : decode code 1237 = .ok (.invokevirtual 88, 3) := by decide +kernel
theorem d_L_law_1240 : decode code 1240 = .ok (.iload 5, 2) := by decide +kernel
theorem d_L_law_1242 : decode code 1242 = .ok (.if_icmp .eq (5), 3) := by decide +kernel
theorem d_L_law_1245 : decode code 1245 = .ok (.iconst 0, 1) := by decide +kernel
theorem d_L_law_1246 : decode code 1246 = .ok (.ireturn, 1) := by decide +kernel
theorem d_L_law_1247 : decode code 1247 = .ok (.iload 5, 2) := by decide +kernel
theorem d_L_law_1249 : decode code 1249 = .ok (.ifCond .ne (15), 3) := by decide +kernel
theorem d_L_law_1252 : decode code 1252 = .ok (.aload_n 3, 1) := by decide +kernel
theorem d_L_law_1253 : decode code 1253 = .ok (.iconst 0, 1) := by decide +kernel
theorem d_L_law_1254 : decode code 1254 = .ok (.laload, 1) := by decide +kernel
theorem d_L_law_1255 : decode code 1255 = .ok (.iload 6, 2) := by decide +kernel
theorem d_L_law_1257 : decode code 1257 = .ok (.i2l, 1) := by decide +kernel
theorem d_L_law_1258 : decode code 1258 = .ok (.lcmp, 1) := by decide +kernel
theorem d_L_law_1259 : decode code 1259 = .ok (.ifCond .eq (5), 3) := by decide +kernel
theorem d_L_law_1262 : decode code 1262 = .ok (.iconst 0, 1) := by decide +kernel
theorem d_L_law_1263 : decode code 1263 = .ok (.ireturn, 1) := by decide +kernel
theorem d_L_law_1264 : decode code 1264 = .ok (.goto (3), 3) := by decide +kernel
theorem d_L_law_1267 : decode code 1267 = .ok (.iinc 4 (4), 3) := by decide +kernel
theorem d_L_law_1270 : decode code 1270 = .ok (.goto (-1247), 3) := by decide +kernel
theorem d_L_law_1273 : decode code 1273 = .ok (.iconst 1, 1) := by decide +kernel
theorem d_L_law_1274 : decode code 1274 = .ok (.ireturn, 1) := by decide +kernel
