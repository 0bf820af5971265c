theorem d_Law_capacity_0 : decode method_3_code 0 = .ok (.aload_n 0, 1) := by decide +kernel
theorem d_Law_capacity_1 : decode method_3_code 1 = .ok (.iload_n 1, 1) := by decide +kernel
theorem d_Law_capacity_2 : decode method_3_code 2 = .ok (.iload_n 2, 1) := by decide +kernel
theorem d_Law_capacity_3 : decode method_3_code 3 = .ok (.iload_n 3, 1) := by decide +kernel
theorem d_Law_capacity_4 : decode method_3_code 4 = .ok (.invokevirtual 7, 3) := by decide +kernel
theorem d_Law_capacity_7 : decode method_3_code 7 = .ok (.goto 15, 3) := by decide +kernel
theorem d_Law_capacity_10 : decode method_3_code 10 = .ok (.astore 4, 2) := by decide +kernel
theorem d_Law_capacity_12 : decode method_3_code 12 = .ok (.iconst 1, 1) := by decide +kernel
theorem d_Law_capacity_13 : decode method_3_code 13 = .ok (.ireturn, 1) := by decide +kernel
theorem d_Law_capacity_14 : decode method_3_code 14 = .ok (.astore 4, 2) := by decide +kernel
theorem d_Law_capacity_16 : decode method_3_code 16 = .ok (.iconst 2, 1) := by decide +kernel
theorem d_Law_capacity_17 : decode method_3_code 17 = .ok (.ireturn, 1) := by decide +kernel
theorem d_Law_capacity_18 : decode method_3_code 18 = .ok (.astore 4, 2) := by decide +kernel
theorem d_Law_capacity_20 : decode method_3_code 20 = .ok (.iconst 3, 1) := by decide +kernel
theorem d_Law_capacity_21 : decode method_3_code 21 = .ok (.ireturn, 1) := by decide +kernel
theorem d_Law_capacity_22 : decode method_3_code 22 = .ok (.iconst 0, 1) := by decide +kernel
theorem d_Law_capacity_23 : decode method_3_code 23 = .ok (.ireturn, 1) := by decide +kernel
theorem d_Law_edge_0 : decode method_4_code 0 = .ok (.aload_n 0, 1) := by decide +kernel
theorem d_Law_edge_1 : decode method_4_code 1 = .ok (.iload_n 1, 1) := by decide +kernel
theorem d_Law_edge_2 : decode method_4_code 2 = .ok (.iload_n 2, 1) := by decide +kernel
theorem d_Law_edge_3 : decode method_4_code 3 = .ok (.iload_n 3, 1) := by decide +kernel
theorem d_Law_edge_4 : decode method_4_code 4 = .ok (.iload 4, 2) := by decide +kernel
theorem d_Law_edge_6 : decode method_4_code 6 = .ok (.invokevirtual 19, 3) := by decide +kernel
theorem d_Law_edge_9 : decode method_4_code 9 = .ok (.goto 15, 3) := by decide +kernel
theorem d_Law_edge_12 : decode method_4_code 12 = .ok (.astore 5, 2) := by decide +kernel
theorem d_Law_edge_14 : decode method_4_code 14 = .ok (.iconst 1, 1) := by decide +kernel
theorem d_Law_edge_15 : decode method_4_code 15 = .ok (.ireturn, 1) := by decide +kernel
theorem d_Law_edge_16 : decode method_4_code 16 = .ok (.astore 5, 2) := by decide +kernel
theorem d_Law_edge_18 : decode method_4_code 18 = .ok (.iconst 2, 1) := by decide +kernel
theorem d_Law_edge_19 : decode method_4_code 19 = .ok (.ireturn, 1) := by decide +kernel
theorem d_Law_edge_20 : decode method_4_code 20 = .ok (.astore 5, 2) := by decide +kernel
theorem d_Law_edge_22 : decode method_4_code 22 = .ok (.iconst 3, 1) := by decide +kernel
theorem d_Law_edge_23 : decode method_4_code 23 = .ok (.ireturn, 1) := by decide +kernel
theorem d_Law_edge_24 : decode method_4_code 24 = .ok (.iconst 0, 1) := by decide +kernel
theorem d_Law_edge_25 : decode method_4_code 25 = .ok (.ireturn, 1) := by decide +kernel
theorem d_Law_limit_0 : decode method_5_code 0 = .ok (.aload_n 0, 1) := by decide +kernel
theorem d_Law_limit_1 : decode method_5_code 1 = .ok (.iload_n 1, 1) := by decide +kernel
theorem d_Law_limit_2 : decode method_5_code 2 = .ok (.iload_n 2, 1) := by decide +kernel
theorem d_Law_limit_3 : decode method_5_code 3 = .ok (.invokevirtual 23, 3) := by decide +kernel
theorem d_Law_limit_6 : decode method_5_code 6 = .ok (.goto 12, 3) := by decide +kernel
theorem d_Law_limit_9 : decode method_5_code 9 = .ok (.astore_n 3, 1) := by decide +kernel
theorem d_Law_limit_10 : decode method_5_code 10 = .ok (.iconst 1, 1) := by decide +kernel
theorem d_Law_limit_11 : decode method_5_code 11 = .ok (.ireturn, 1) := by decide +kernel
theorem d_Law_limit_12 : decode method_5_code 12 = .ok (.astore_n 3, 1) := by decide +kernel
theorem d_Law_limit_13 : decode method_5_code 13 = .ok (.iconst 2, 1) := by decide +kernel
theorem d_Law_limit_14 : decode method_5_code 14 = .ok (.ireturn, 1) := by decide +kernel
theorem d_Law_limit_15 : decode method_5_code 15 = .ok (.astore_n 3, 1) := by decide +kernel
theorem d_Law_limit_16 : decode method_5_code 16 = .ok (.iconst 3, 1) := by decide +kernel
theorem d_Law_limit_17 : decode method_5_code 17 = .ok (.ireturn, 1) := by decide +kernel
theorem d_Law_limit_18 : decode method_5_code 18 = .ok (.iconst 0, 1) := by decide +kernel
theorem d_Law_limit_19 : decode method_5_code 19 = .ok (.ireturn, 1) := by decide +kernel
theorem d_Law_air_0 : decode method_6_code 0 = .ok (.aload_n 0, 1) := by decide +kernel
theorem d_Law_air_1 : decode method_6_code 1 = .ok (.iload_n 1, 1) := by decide +kernel
theorem d_Law_air_2 : decode method_6_code 2 = .ok (.iload_n 2, 1) := by decide +kernel
theorem d_Law_air_3 : decode method_6_code 3 = .ok (.iload_n 3, 1) := by decide +kernel
theorem d_Law_air_4 : decode method_6_code 4 = .ok (.invokevirtual 27, 3) := by decide +kernel
theorem d_Law_air_7 : decode method_6_code 7 = .ok (.goto 11, 3) := by decide +kernel
theorem d_Law_air_10 : decode method_6_code 10 = .ok (.astore 4, 2) := by decide +kernel
theorem d_Law_air_12 : decode method_6_code 12 = .ok (.iconst 1, 1) := by decide +kernel
theorem d_Law_air_13 : decode method_6_code 13 = .ok (.ireturn, 1) := by decide +kernel
theorem d_Law_air_14 : decode method_6_code 14 = .ok (.astore 4, 2) := by decide +kernel
theorem d_Law_air_16 : decode method_6_code 16 = .ok (.iconst 2, 1) := by decide +kernel
theorem d_Law_air_17 : decode method_6_code 17 = .ok (.ireturn, 1) := by decide +kernel
theorem d_Law_air_18 : decode method_6_code 18 = .ok (.iconst 0, 1) := by decide +kernel
theorem d_Law_air_19 : decode method_6_code 19 = .ok (.ireturn, 1) := by decide +kernel
theorem d_Law_power_0 : decode method_7_code 0 = .ok (.aload_n 0, 1) := by decide +kernel
theorem d_Law_power_1 : decode method_7_code 1 = .ok (.iload_n 1, 1) := by decide +kernel
theorem d_Law_power_2 : decode method_7_code 2 = .ok (.iload_n 2, 1) := by decide +kernel
theorem d_Law_power_3 : decode method_7_code 3 = .ok (.invokevirtual 30, 3) := by decide +kernel
theorem d_Law_power_6 : decode method_7_code 6 = .ok (.goto 12, 3) := by decide +kernel
theorem d_Law_power_9 : decode method_7_code 9 = .ok (.astore_n 3, 1) := by decide +kernel
theorem d_Law_power_10 : decode method_7_code 10 = .ok (.iconst 1, 1) := by decide +kernel
theorem d_Law_power_11 : decode method_7_code 11 = .ok (.ireturn, 1) := by decide +kernel
theorem d_Law_power_12 : decode method_7_code 12 = .ok (.astore_n 3, 1) := by decide +kernel
theorem d_Law_power_13 : decode method_7_code 13 = .ok (.iconst 2, 1) := by decide +kernel
theorem d_Law_power_14 : decode method_7_code 14 = .ok (.ireturn, 1) := by decide +kernel
theorem d_Law_power_15 : decode method_7_code 15 = .ok (.astore_n 3, 1) := by decide +kernel
theorem d_Law_power_16 : decode method_7_code 16 = .ok (.iconst 3, 1) := by decide +kernel
theorem d_Law_power_17 : decode method_7_code 17 = .ok (.ireturn, 1) := by decide +kernel
theorem d_Law_power_18 : decode method_7_code 18 = .ok (.iconst 0, 1) := by decide +kernel
theorem d_Law_power_19 : decode method_7_code 19 = .ok (.ireturn, 1) := by decide +kernel
theorem d_Law_leak_0 : decode method_8_code 0 = .ok (.aload_n 0, 1) := by decide +kernel
theorem d_Law_leak_1 : decode method_8_code 1 = .ok (.iload_n 1, 1) := by decide +kernel
theorem d_Law_leak_2 : decode method_8_code 2 = .ok (.iload_n 2, 1) := by decide +kernel
theorem d_Law_leak_3 : decode method_8_code 3 = .ok (.iload_n 3, 1) := by decide +kernel
theorem d_Law_leak_4 : decode method_8_code 4 = .ok (.iload 4, 2) := by decide +kernel
theorem d_Law_leak_6 : decode method_8_code 6 = .ok (.invokevirtual 33, 3) := by decide +kernel
theorem d_Law_leak_9 : decode method_8_code 9 = .ok (.goto 11, 3) := by decide +kernel
theorem d_Law_leak_12 : decode method_8_code 12 = .ok (.astore 5, 2) := by decide +kernel
theorem d_Law_leak_14 : decode method_8_code 14 = .ok (.iconst 1, 1) := by decide +kernel
theorem d_Law_leak_15 : decode method_8_code 15 = .ok (.ireturn, 1) := by decide +kernel
theorem d_Law_leak_16 : decode method_8_code 16 = .ok (.astore 5, 2) := by decide +kernel
theorem d_Law_leak_18 : decode method_8_code 18 = .ok (.iconst 2, 1) := by decide +kernel
theorem d_Law_leak_19 : decode method_8_code 19 = .ok (.ireturn, 1) := by decide +kernel
theorem d_Law_leak_20 : decode method_8_code 20 = .ok (.iconst 0, 1) := by decide +kernel
theorem d_Law_leak_21 : decode method_8_code 21 = .ok (.ireturn, 1) := by decide +kernel
theorem d_Law_truth_0 : decode method_9_code 0 = .ok (.aload_n 0, 1) := by decide +kernel
theorem d_Law_truth_1 : decode method_9_code 1 = .ok (.iload_n 1, 1) := by decide +kernel
theorem d_Law_truth_2 : decode method_9_code 2 = .ok (.iload_n 2, 1) := by decide +kernel
theorem d_Law_truth_3 : decode method_9_code 3 = .ok (.iload_n 3, 1) := by decide +kernel
theorem d_Law_truth_4 : decode method_9_code 4 = .ok (.invokevirtual 36, 3) := by decide +kernel
theorem d_Law_truth_7 : decode method_9_code 7 = .ok (.goto 15, 3) := by decide +kernel
theorem d_Law_truth_10 : decode method_9_code 10 = .ok (.astore 4, 2) := by decide +kernel
theorem d_Law_truth_12 : decode method_9_code 12 = .ok (.iconst 1, 1) := by decide +kernel
theorem d_Law_truth_13 : decode method_9_code 13 = .ok (.ireturn, 1) := by decide +kernel
theorem d_Law_truth_14 : decode method_9_code 14 = .ok (.astore 4, 2) := by decide +kernel
theorem d_Law_truth_16 : decode method_9_code 16 = .ok (.iconst 2, 1) := by decide +kernel
theorem d_Law_truth_17 : decode method_9_code 17 = .ok (.ireturn, 1) := by decide +kernel
theorem d_Law_truth_18 : decode method_9_code 18 = .ok (.astore 4, 2) := by decide +kernel
theorem d_Law_truth_20 : decode method_9_code 20 = .ok (.iconst 3, 1) := by decide +kernel
theorem d_Law_truth_21 : decode method_9_code 21 = .ok (.ireturn, 1) := by decide +kernel
theorem d_Law_truth_22 : decode method_9_code 22 = .ok (.iconst 0, 1) := by decide +kernel
theorem d_Law_truth_23 : decode method_9_code 23 = .ok (.ireturn, 1) := by decide +kernel
theorem d_Law_seal_0 : decode method_10_code 0 = .ok (.aload_n 1, 1) := by decide +kernel
theorem d_Law_seal_1 : decode method_10_code 1 = .ok (.iconst 0, 1) := by decide +kernel
theorem d_Law_seal_2 : decode method_10_code 2 = .ok (.aload_n 0, 1) := by decide +kernel
theorem d_Law_seal_3 : decode method_10_code 3 = .ok (.invokevirtual 39, 3) := by decide +kernel
theorem d_Law_seal_6 : decode method_10_code 6 = .ok (.ifCond .eq 7, 3) := by decide +kernel
theorem d_Law_seal_9 : decode method_10_code 9 = .ok (.lconst 1, 1) := by decide +kernel
theorem d_Law_seal_10 : decode method_10_code 10 = .ok (.goto 4, 3) := by decide +kernel
theorem d_Law_seal_13 : decode method_10_code 13 = .ok (.lconst 0, 1) := by decide +kernel
theorem d_Law_seal_14 : decode method_10_code 14 = .ok (.lastore, 1) := by decide +kernel
theorem d_Law_seal_15 : decode method_10_code 15 = .ok (.goto 6, 3) := by decide +kernel
theorem d_Law_seal_18 : decode method_10_code 18 = .ok (.astore_n 2, 1) := by decide +kernel
theorem d_Law_seal_19 : decode method_10_code 19 = .ok (.iconst 1, 1) := by decide +kernel
theorem d_Law_seal_20 : decode method_10_code 20 = .ok (.ireturn, 1) := by decide +kernel
theorem d_Law_seal_21 : decode method_10_code 21 = .ok (.iconst 0, 1) := by decide +kernel
theorem d_Law_seal_22 : decode method_10_code 22 = .ok (.ireturn, 1) := by decide +kernel
theorem d_Law_ask_0 : decode method_11_code 0 = .ok (.aload_n 0, 1) := by decide +kernel
theorem d_Law_ask_1 : decode method_11_code 1 = .ok (.iload_n 1, 1) := by decide +kernel
theorem d_Law_ask_2 : decode method_11_code 2 = .ok (.iload_n 2, 1) := by decide +kernel
theorem d_Law_ask_3 : decode method_11_code 3 = .ok (.iload_n 3, 1) := by decide +kernel
theorem d_Law_ask_4 : decode method_11_code 4 = .ok (.invokevirtual 43, 3) := by decide +kernel
theorem d_Law_ask_7 : decode method_11_code 7 = .ok (.goto 15, 3) := by decide +kernel
theorem d_Law_ask_10 : decode method_11_code 10 = .ok (.astore 4, 2) := by decide +kernel
theorem d_Law_ask_12 : decode method_11_code 12 = .ok (.iconst 1, 1) := by decide +kernel
theorem d_Law_ask_13 : decode method_11_code 13 = .ok (.ireturn, 1) := by decide +kernel
theorem d_Law_ask_14 : decode method_11_code 14 = .ok (.astore 4, 2) := by decide +kernel
theorem d_Law_ask_16 : decode method_11_code 16 = .ok (.iconst 2, 1) := by decide +kernel
theorem d_Law_ask_17 : decode method_11_code 17 = .ok (.ireturn, 1) := by decide +kernel
theorem d_Law_ask_18 : decode method_11_code 18 = .ok (.astore 4, 2) := by decide +kernel
theorem d_Law_ask_20 : decode method_11_code 20 = .ok (.iconst 3, 1) := by decide +kernel
theorem d_Law_ask_21 : decode method_11_code 21 = .ok (.ireturn, 1) := by decide +kernel
theorem d_Law_ask_22 : decode method_11_code 22 = .ok (.iconst 0, 1) := by decide +kernel
theorem d_Law_ask_23 : decode method_11_code 23 = .ok (.ireturn, 1) := by decide +kernel
theorem d_Law_period_0 : decode method_12_code 0 = .ok (.aload_n 1, 1) := by decide +kernel
theorem d_Law_period_1 : decode method_12_code 1 = .ok (.iconst 0, 1) := by decide +kernel
theorem d_Law_period_2 : decode method_12_code 2 = .ok (.aload_n 0, 1) := by decide +kernel
theorem d_Law_period_3 : decode method_12_code 3 = .ok (.invokevirtual 46, 3) := by decide +kernel
theorem d_Law_period_6 : decode method_12_code 6 = .ok (.i2l, 1) := by decide +kernel
theorem d_Law_period_7 : decode method_12_code 7 = .ok (.lastore, 1) := by decide +kernel
theorem d_Law_period_8 : decode method_12_code 8 = .ok (.goto 6, 3) := by decide +kernel
theorem d_Law_period_11 : decode method_12_code 11 = .ok (.astore_n 2, 1) := by decide +kernel
theorem d_Law_period_12 : decode method_12_code 12 = .ok (.iconst 1, 1) := by decide +kernel
theorem d_Law_period_13 : decode method_12_code 13 = .ok (.ireturn, 1) := by decide +kernel
theorem d_Law_period_14 : decode method_12_code 14 = .ok (.iconst 0, 1) := by decide +kernel
theorem d_Law_period_15 : decode method_12_code 15 = .ok (.ireturn, 1) := by decide +kernel
theorem d_Law_tick_0 : decode method_13_code 0 = .ok (.aload_n 2, 1) := by decide +kernel
theorem d_Law_tick_1 : decode method_13_code 1 = .ok (.iconst 0, 1) := by decide +kernel
theorem d_Law_tick_2 : decode method_13_code 2 = .ok (.aload_n 0, 1) := by decide +kernel
theorem d_Law_tick_3 : decode method_13_code 3 = .ok (.iload_n 1, 1) := by decide +kernel
theorem d_Law_tick_4 : decode method_13_code 4 = .ok (.invokevirtual 50, 3) := by decide +kernel
theorem d_Law_tick_7 : decode method_13_code 7 = .ok (.i2l, 1) := by decide +kernel
theorem d_Law_tick_8 : decode method_13_code 8 = .ok (.lastore, 1) := by decide +kernel
theorem d_Law_tick_9 : decode method_13_code 9 = .ok (.goto 9, 3) := by decide +kernel
theorem d_Law_tick_12 : decode method_13_code 12 = .ok (.astore_n 3, 1) := by decide +kernel
theorem d_Law_tick_13 : decode method_13_code 13 = .ok (.iconst 1, 1) := by decide +kernel
theorem d_Law_tick_14 : decode method_13_code 14 = .ok (.ireturn, 1) := by decide +kernel
theorem d_Law_tick_15 : decode method_13_code 15 = .ok (.astore_n 3, 1) := by decide +kernel
theorem d_Law_tick_16 : decode method_13_code 16 = .ok (.iconst 2, 1) := by decide +kernel
theorem d_Law_tick_17 : decode method_13_code 17 = .ok (.ireturn, 1) := by decide +kernel
theorem d_Law_tick_18 : decode method_13_code 18 = .ok (.iconst 0, 1) := by decide +kernel
theorem d_Law_tick_19 : decode method_13_code 19 = .ok (.ireturn, 1) := by decide +kernel
theorem d_Law_draw_0 : decode method_14_code 0 = .ok (.aload_n 0, 1) := by decide +kernel
theorem d_Law_draw_1 : decode method_14_code 1 = .ok (.iload_n 1, 1) := by decide +kernel
theorem d_Law_draw_2 : decode method_14_code 2 = .ok (.iload_n 2, 1) := by decide +kernel
theorem d_Law_draw_3 : decode method_14_code 3 = .ok (.invokevirtual 54, 3) := by decide +kernel
theorem d_Law_draw_6 : decode method_14_code 6 = .ok (.goto 12, 3) := by decide +kernel
theorem d_Law_draw_9 : decode method_14_code 9 = .ok (.astore_n 3, 1) := by decide +kernel
theorem d_Law_draw_10 : decode method_14_code 10 = .ok (.iconst 1, 1) := by decide +kernel
theorem d_Law_draw_11 : decode method_14_code 11 = .ok (.ireturn, 1) := by decide +kernel
theorem d_Law_draw_12 : decode method_14_code 12 = .ok (.astore_n 3, 1) := by decide +kernel
theorem d_Law_draw_13 : decode method_14_code 13 = .ok (.iconst 2, 1) := by decide +kernel
theorem d_Law_draw_14 : decode method_14_code 14 = .ok (.ireturn, 1) := by decide +kernel
theorem d_Law_draw_15 : decode method_14_code 15 = .ok (.astore_n 3, 1) := by decide +kernel
theorem d_Law_draw_16 : decode method_14_code 16 = .ok (.iconst 3, 1) := by decide +kernel
theorem d_Law_draw_17 : decode method_14_code 17 = .ok (.ireturn, 1) := by decide +kernel
theorem d_Law_draw_18 : decode method_14_code 18 = .ok (.iconst 0, 1) := by decide +kernel
theorem d_Law_draw_19 : decode method_14_code 19 = .ok (.ireturn, 1) := by decide +kernel
theorem d_Law_sensor_0 : decode method_15_code 0 = .ok (.aload_n 0, 1) := by decide +kernel
theorem d_Law_sensor_1 : decode method_15_code 1 = .ok (.iload_n 1, 1) := by decide +kernel
theorem d_Law_sensor_2 : decode method_15_code 2 = .ok (.iload_n 2, 1) := by decide +kernel
theorem d_Law_sensor_3 : decode method_15_code 3 = .ok (.iload_n 3, 1) := by decide +kernel
theorem d_Law_sensor_4 : decode method_15_code 4 = .ok (.invokevirtual 57, 3) := by decide +kernel
theorem d_Law_sensor_7 : decode method_15_code 7 = .ok (.goto 15, 3) := by decide +kernel
theorem d_Law_sensor_10 : decode method_15_code 10 = .ok (.astore 4, 2) := by decide +kernel
theorem d_Law_sensor_12 : decode method_15_code 12 = .ok (.iconst 1, 1) := by decide +kernel
theorem d_Law_sensor_13 : decode method_15_code 13 = .ok (.ireturn, 1) := by decide +kernel
theorem d_Law_sensor_14 : decode method_15_code 14 = .ok (.astore 4, 2) := by decide +kernel
theorem d_Law_sensor_16 : decode method_15_code 16 = .ok (.iconst 2, 1) := by decide +kernel
theorem d_Law_sensor_17 : decode method_15_code 17 = .ok (.ireturn, 1) := by decide +kernel
theorem d_Law_sensor_18 : decode method_15_code 18 = .ok (.astore 4, 2) := by decide +kernel
theorem d_Law_sensor_20 : decode method_15_code 20 = .ok (.iconst 3, 1) := by decide +kernel
theorem d_Law_sensor_21 : decode method_15_code 21 = .ok (.ireturn, 1) := by decide +kernel
theorem d_Law_sensor_22 : decode method_15_code 22 = .ok (.iconst 0, 1) := by decide +kernel
theorem d_Law_sensor_23 : decode method_15_code 23 = .ok (.ireturn, 1) := by decide +kernel
theorem d_Law_ahead_0 : decode method_16_code 0 = .ok (.aload_n 2, 1) := by decide +kernel
theorem d_Law_ahead_1 : decode method_16_code 1 = .ok (.iconst 0, 1) := by decide +kernel
theorem d_Law_ahead_2 : decode method_16_code 2 = .ok (.aload_n 0, 1) := by decide +kernel
theorem d_Law_ahead_3 : decode method_16_code 3 = .ok (.iload_n 1, 1) := by decide +kernel
theorem d_Law_ahead_4 : decode method_16_code 4 = .ok (.invokevirtual 61, 3) := by decide +kernel
theorem d_Law_ahead_7 : decode method_16_code 7 = .ok (.ifCond .eq 7, 3) := by decide +kernel
theorem d_Law_ahead_10 : decode method_16_code 10 = .ok (.lconst 1, 1) := by decide +kernel
theorem d_Law_ahead_11 : decode method_16_code 11 = .ok (.goto 4, 3) := by decide +kernel
theorem d_Law_ahead_14 : decode method_16_code 14 = .ok (.lconst 0, 1) := by decide +kernel
theorem d_Law_ahead_15 : decode method_16_code 15 = .ok (.lastore, 1) := by decide +kernel
theorem d_Law_ahead_16 : decode method_16_code 16 = .ok (.goto 9, 3) := by decide +kernel
theorem d_Law_ahead_19 : decode method_16_code 19 = .ok (.astore_n 3, 1) := by decide +kernel
theorem d_Law_ahead_20 : decode method_16_code 20 = .ok (.iconst 1, 1) := by decide +kernel
theorem d_Law_ahead_21 : decode method_16_code 21 = .ok (.ireturn, 1) := by decide +kernel
theorem d_Law_ahead_22 : decode method_16_code 22 = .ok (.astore_n 3, 1) := by decide +kernel
theorem d_Law_ahead_23 : decode method_16_code 23 = .ok (.iconst 2, 1) := by decide +kernel
theorem d_Law_ahead_24 : decode method_16_code 24 = .ok (.ireturn, 1) := by decide +kernel
theorem d_Law_ahead_25 : decode method_16_code 25 = .ok (.iconst 0, 1) := by decide +kernel
theorem d_Law_ahead_26 : decode method_16_code 26 = .ok (.ireturn, 1) := by decide +kernel
theorem d_Law_node_0 : decode method_17_code 0 = .ok (.aload_n 3, 1) := by decide +kernel
theorem d_Law_node_1 : decode method_17_code 1 = .ok (.iconst 0, 1) := by decide +kernel
theorem d_Law_node_2 : decode method_17_code 2 = .ok (.aload_n 0, 1) := by decide +kernel
theorem d_Law_node_3 : decode method_17_code 3 = .ok (.iload_n 1, 1) := by decide +kernel
theorem d_Law_node_4 : decode method_17_code 4 = .ok (.iload_n 2, 1) := by decide +kernel
theorem d_Law_node_5 : decode method_17_code 5 = .ok (.invokevirtual 65, 3) := by decide +kernel
theorem d_Law_node_8 : decode method_17_code 8 = .ok (.i2l, 1) := by decide +kernel
theorem d_Law_node_9 : decode method_17_code 9 = .ok (.lastore, 1) := by decide +kernel
theorem d_Law_node_10 : decode method_17_code 10 = .ok (.goto 11, 3) := by decide +kernel
theorem d_Law_node_13 : decode method_17_code 13 = .ok (.astore 4, 2) := by decide +kernel
theorem d_Law_node_15 : decode method_17_code 15 = .ok (.iconst 1, 1) := by decide +kernel
theorem d_Law_node_16 : decode method_17_code 16 = .ok (.ireturn, 1) := by decide +kernel
theorem d_Law_node_17 : decode method_17_code 17 = .ok (.astore 4, 2) := by decide +kernel
theorem d_Law_node_19 : decode method_17_code 19 = .ok (.iconst 2, 1) := by decide +kernel
theorem d_Law_node_20 : decode method_17_code 20 = .ok (.ireturn, 1) := by decide +kernel
theorem d_Law_node_21 : decode method_17_code 21 = .ok (.iconst 0, 1) := by decide +kernel
theorem d_Law_node_22 : decode method_17_code 22 = .ok (.ireturn, 1) := by decide +kernel
theorem d_Law_core_0 : decode method_18_code 0 = .ok (.aload_n 3, 1) := by decide +kernel
theorem d_Law_core_1 : decode method_18_code 1 = .ok (.iconst 0, 1) := by decide +kernel
theorem d_Law_core_2 : decode method_18_code 2 = .ok (.aload_n 0, 1) := by decide +kernel
theorem d_Law_core_3 : decode method_18_code 3 = .ok (.iload_n 1, 1) := by decide +kernel
theorem d_Law_core_4 : decode method_18_code 4 = .ok (.iload_n 2, 1) := by decide +kernel
theorem d_Law_core_5 : decode method_18_code 5 = .ok (.invokevirtual 69, 3) := by decide +kernel
theorem d_Law_core_8 : decode method_18_code 8 = .ok (.i2l, 1) := by decide +kernel
theorem d_Law_core_9 : decode method_18_code 9 = .ok (.lastore, 1) := by decide +kernel
theorem d_Law_core_10 : decode method_18_code 10 = .ok (.goto 11, 3) := by decide +kernel
theorem d_Law_core_13 : decode method_18_code 13 = .ok (.astore 4, 2) := by decide +kernel
theorem d_Law_core_15 : decode method_18_code 15 = .ok (.iconst 1, 1) := by decide +kernel
theorem d_Law_core_16 : decode method_18_code 16 = .ok (.ireturn, 1) := by decide +kernel
theorem d_Law_core_17 : decode method_18_code 17 = .ok (.astore 4, 2) := by decide +kernel
theorem d_Law_core_19 : decode method_18_code 19 = .ok (.iconst 2, 1) := by decide +kernel
theorem d_Law_core_20 : decode method_18_code 20 = .ok (.ireturn, 1) := by decide +kernel
theorem d_Law_core_21 : decode method_18_code 21 = .ok (.iconst 0, 1) := by decide +kernel
theorem d_Law_core_22 : decode method_18_code 22 = .ok (.ireturn, 1) := by decide +kernel
theorem d_Law_law_0 : decode code 0 = .ok (.new 8, 3) := by decide +kernel
theorem d_Law_law_3 : decode code 3 = .ok (.dup, 1) := by decide +kernel
theorem d_Law_law_4 : decode code 4 = .ok (.invokespecial 72, 3) := by decide +kernel
theorem d_Law_law_7 : decode code 7 = .ok (.astore_n 1, 1) := by decide +kernel
theorem d_Law_law_8 : decode code 8 = .ok (.new 73, 3) := by decide +kernel
theorem d_Law_law_11 : decode code 11 = .ok (.dup, 1) := by decide +kernel
theorem d_Law_law_12 : decode code 12 = .ok (.invokespecial 75, 3) := by decide +kernel
theorem d_Law_law_15 : decode code 15 = .ok (.astore_n 2, 1) := by decide +kernel
theorem d_Law_law_16 : decode code 16 = .ok (.iconst 1, 1) := by decide +kernel
theorem d_Law_law_17 : decode code 17 = .ok (.newarray .long, 2) := by decide +kernel
theorem d_Law_law_19 : decode code 19 = .ok (.astore_n 3, 1) := by decide +kernel
theorem d_Law_law_20 : decode code 20 = .ok (.iconst 0, 1) := by decide +kernel
theorem d_Law_law_21 : decode code 21 = .ok (.istore 4, 2) := by decide +kernel
theorem d_Law_law_23 : decode code 23 = .ok (.iload 4, 2) := by decide +kernel
theorem d_Law_law_25 : decode code 25 = .ok (.aload_n 0, 1) := by decide +kernel
theorem d_Law_law_26 : decode code 26 = .ok (.arraylength, 1) := by decide +kernel
theorem d_Law_law_27 : decode code 27 = .ok (.iconst 5, 1) := by decide +kernel
theorem d_Law_law_28 : decode code 28 = .ok (.isub, 1) := by decide +kernel
theorem d_Law_law_29 : decode code 29 = .ok (.if_icmp .gt 1062, 3) := by decide +kernel
theorem d_Law_law_32 : decode code 32 = .ok (.aload_n 0, 1) := by decide +kernel
theorem d_Law_law_33 : decode code 33 = .ok (.iload 4, 2) := by decide +kernel
theorem d_Law_law_35 : decode code 35 = .ok (.iaload, 1) := by decide +kernel
theorem d_Law_law_36 : decode code 36 = .ok (.bipush 31, 2) := by decide +kernel
theorem d_Law_law_38 : decode code 38 = .ok (.iand, 1) := by decide +kernel
theorem d_Law_law_39 : decode code 39 = .ok (.tableswitch 1046 0 16 #[81, 141, 213, 261, 321, 369, 441, 501, 552, 612, 656, 712, 760, 836, 899, 967, 1035], 81) := by decide +kernel
theorem d_Law_law_120 : decode code 120 = .ok (.aload_n 1, 1) := by decide +kernel
theorem d_Law_law_121 : decode code 121 = .ok (.aload_n 0, 1) := by decide +kernel
theorem d_Law_law_122 : decode code 122 = .ok (.iload 4, 2) := by decide +kernel
theorem d_Law_law_124 : decode code 124 = .ok (.iconst 1, 1) := by decide +kernel
theorem d_Law_law_125 : decode code 125 = .ok (.iadd, 1) := by decide +kernel
theorem d_Law_law_126 : decode code 126 = .ok (.iaload, 1) := by decide +kernel
theorem d_Law_law_127 : decode code 127 = .ok (.aload_n 0, 1) := by decide +kernel
theorem d_Law_law_128 : decode code 128 = .ok (.iload 4, 2) := by decide +kernel
theorem d_Law_law_130 : decode code 130 = .ok (.iconst 2, 1) := by decide +kernel
theorem d_Law_law_131 : decode code 131 = .ok (.iadd, 1) := by decide +kernel
theorem d_Law_law_132 : decode code 132 = .ok (.iaload, 1) := by decide +kernel
theorem d_Law_law_133 : decode code 133 = .ok (.aload_n 0, 1) := by decide +kernel
theorem d_Law_law_134 : decode code 134 = .ok (.iload 4, 2) := by decide +kernel
theorem d_Law_law_136 : decode code 136 = .ok (.iconst 3, 1) := by decide +kernel
theorem d_Law_law_137 : decode code 137 = .ok (.iadd, 1) := by decide +kernel
theorem d_Law_law_138 : decode code 138 = .ok (.iaload, 1) := by decide +kernel
theorem d_Law_law_139 : decode code 139 = .ok (.invokestatic 76, 3) := by decide +kernel
theorem d_Law_law_142 : decode code 142 = .ok (.istore 5, 2) := by decide +kernel
theorem d_Law_law_144 : decode code 144 = .ok (.aload_n 2, 1) := by decide +kernel
theorem d_Law_law_145 : decode code 145 = .ok (.aload_n 0, 1) := by decide +kernel
theorem d_Law_law_146 : decode code 146 = .ok (.iload 4, 2) := by decide +kernel
theorem d_Law_law_148 : decode code 148 = .ok (.iconst 1, 1) := by decide +kernel
theorem d_Law_law_149 : decode code 149 = .ok (.iadd, 1) := by decide +kernel
theorem d_Law_law_150 : decode code 150 = .ok (.iaload, 1) := by decide +kernel
theorem d_Law_law_151 : decode code 151 = .ok (.aload_n 0, 1) := by decide +kernel
theorem d_Law_law_152 : decode code 152 = .ok (.iload 4, 2) := by decide +kernel
theorem d_Law_law_154 : decode code 154 = .ok (.iconst 2, 1) := by decide +kernel
theorem d_Law_law_155 : decode code 155 = .ok (.iadd, 1) := by decide +kernel
theorem d_Law_law_156 : decode code 156 = .ok (.iaload, 1) := by decide +kernel
theorem d_Law_law_157 : decode code 157 = .ok (.aload_n 0, 1) := by decide +kernel
theorem d_Law_law_158 : decode code 158 = .ok (.iload 4, 2) := by decide +kernel
theorem d_Law_law_160 : decode code 160 = .ok (.iconst 3, 1) := by decide +kernel
theorem d_Law_law_161 : decode code 161 = .ok (.iadd, 1) := by decide +kernel
theorem d_Law_law_162 : decode code 162 = .ok (.iaload, 1) := by decide +kernel
theorem d_Law_law_163 : decode code 163 = .ok (.invokevirtual 81, 3) := by decide +kernel
theorem d_Law_law_166 : decode code 166 = .ok (.aload_n 2, 1) := by decide +kernel
theorem d_Law_law_167 : decode code 167 = .ok (.invokevirtual 82, 3) := by decide +kernel
theorem d_Law_law_170 : decode code 170 = .ok (.iload 5, 2) := by decide +kernel
theorem d_Law_law_172 : decode code 172 = .ok (.if_icmp .eq 5, 3) := by decide +kernel
theorem d_Law_law_175 : decode code 175 = .ok (.iconst 0, 1) := by decide +kernel
theorem d_Law_law_176 : decode code 176 = .ok (.ireturn, 1) := by decide +kernel
theorem d_Law_law_177 : decode code 177 = .ok (.goto 908, 3) := by decide +kernel
theorem d_Law_law_180 : decode code 180 = .ok (.aload_n 1, 1) := by decide +kernel
theorem d_Law_law_181 : decode code 181 = .ok (.aload_n 0, 1) := by decide +kernel
theorem d_Law_law_182 : decode code 182 = .ok (.iload 4, 2) := by decide +kernel
theorem d_Law_law_184 : decode code 184 = .ok (.iconst 1, 1) := by decide +kernel
theorem d_Law_law_185 : decode code 185 = .ok (.iadd, 1) := by decide +kernel
theorem d_Law_law_186 : decode code 186 = .ok (.iaload, 1) := by decide +kernel
theorem d_Law_law_187 : decode code 187 = .ok (.aload_n 0, 1) := by decide +kernel
theorem d_Law_law_188 : decode code 188 = .ok (.iload 4, 2) := by decide +kernel
theorem d_Law_law_190 : decode code 190 = .ok (.iconst 2, 1) := by decide +kernel
theorem d_Law_law_191 : decode code 191 = .ok (.iadd, 1) := by decide +kernel
theorem d_Law_law_192 : decode code 192 = .ok (.iaload, 1) := by decide +kernel
theorem d_Law_law_193 : decode code 193 = .ok (.aload_n 0, 1) := by decide +kernel
theorem d_Law_law_194 : decode code 194 = .ok (.iload 4, 2) := by decide +kernel
theorem d_Law_law_196 : decode code 196 = .ok (.iconst 3, 1) := by decide +kernel
theorem d_Law_law_197 : decode code 197 = .ok (.iadd, 1) := by decide +kernel
theorem d_Law_law_198 : decode code 198 = .ok (.iaload, 1) := by decide +kernel
theorem d_Law_law_199 : decode code 199 = .ok (.aload_n 0, 1) := by decide +kernel
theorem d_Law_law_200 : decode code 200 = .ok (.iload 4, 2) := by decide +kernel
theorem d_Law_law_202 : decode code 202 = .ok (.iconst 4, 1) := by decide +kernel
theorem d_Law_law_203 : decode code 203 = .ok (.iadd, 1) := by decide +kernel
theorem d_Law_law_204 : decode code 204 = .ok (.iaload, 1) := by decide +kernel
theorem d_Law_law_205 : decode code 205 = .ok (.invokestatic 85, 3) := by decide +kernel
theorem d_Law_law_208 : decode code 208 = .ok (.istore 5, 2) := by decide +kernel
theorem d_Law_law_210 : decode code 210 = .ok (.aload_n 2, 1) := by decide +kernel
theorem d_Law_law_211 : decode code 211 = .ok (.aload_n 0, 1) := by decide +kernel
theorem d_Law_law_212 : decode code 212 = .ok (.iload 4, 2) := by decide +kernel
theorem d_Law_law_214 : decode code 214 = .ok (.iconst 1, 1) := by decide +kernel
theorem d_Law_law_215 : decode code 215 = .ok (.iadd, 1) := by decide +kernel
theorem d_Law_law_216 : decode code 216 = .ok (.iaload, 1) := by decide +kernel
theorem d_Law_law_217 : decode code 217 = .ok (.aload_n 0, 1) := by decide +kernel
theorem d_Law_law_218 : decode code 218 = .ok (.iload 4, 2) := by decide +kernel
theorem d_Law_law_220 : decode code 220 = .ok (.iconst 2, 1) := by decide +kernel
theorem d_Law_law_221 : decode code 221 = .ok (.iadd, 1) := by decide +kernel
theorem d_Law_law_222 : decode code 222 = .ok (.iaload, 1) := by decide +kernel
theorem d_Law_law_223 : decode code 223 = .ok (.aload_n 0, 1) := by decide +kernel
theorem d_Law_law_224 : decode code 224 = .ok (.iload 4, 2) := by decide +kernel
theorem d_Law_law_226 : decode code 226 = .ok (.iconst 3, 1) := by decide +kernel
theorem d_Law_law_227 : decode code 227 = .ok (.iadd, 1) := by decide +kernel
theorem d_Law_law_228 : decode code 228 = .ok (.iaload, 1) := by decide +kernel
theorem d_Law_law_229 : decode code 229 = .ok (.aload_n 0, 1) := by decide +kernel
theorem d_Law_law_230 : decode code 230 = .ok (.iload 4, 2) := by decide +kernel
theorem d_Law_law_232 : decode code 232 = .ok (.iconst 4, 1) := by decide +kernel
theorem d_Law_law_233 : decode code 233 = .ok (.iadd, 1) := by decide +kernel
theorem d_Law_law_234 : decode code 234 = .ok (.iaload, 1) := by decide +kernel
theorem d_Law_law_235 : decode code 235 = .ok (.invokevirtual 88, 3) := by decide +kernel
theorem d_Law_law_238 : decode code 238 = .ok (.aload_n 2, 1) := by decide +kernel
theorem d_Law_law_239 : decode code 239 = .ok (.invokevirtual 82, 3) := by decide +kernel
theorem d_Law_law_242 : decode code 242 = .ok (.iload 5, 2) := by decide +kernel
theorem d_Law_law_244 : decode code 244 = .ok (.if_icmp .eq 5, 3) := by decide +kernel
theorem d_Law_law_247 : decode code 247 = .ok (.iconst 0, 1) := by decide +kernel
theorem d_Law_law_248 : decode code 248 = .ok (.ireturn, 1) := by decide +kernel
theorem d_Law_law_249 : decode code 249 = .ok (.goto 836, 3) := by decide +kernel
theorem d_Law_law_252 : decode code 252 = .ok (.aload_n 1, 1) := by decide +kernel
theorem d_Law_law_253 : decode code 253 = .ok (.aload_n 0, 1) := by decide +kernel
theorem d_Law_law_254 : decode code 254 = .ok (.iload 4, 2) := by decide +kernel
theorem d_Law_law_256 : decode code 256 = .ok (.iconst 1, 1) := by decide +kernel
theorem d_Law_law_257 : decode code 257 = .ok (.iadd, 1) := by decide +kernel
theorem d_Law_law_258 : decode code 258 = .ok (.iaload, 1) := by decide +kernel
theorem d_Law_law_259 : decode code 259 = .ok (.aload_n 0, 1) := by decide +kernel
theorem d_Law_law_260 : decode code 260 = .ok (.iload 4, 2) := by decide +kernel
theorem d_Law_law_262 : decode code 262 = .ok (.iconst 2, 1) := by decide +kernel
theorem d_Law_law_263 : decode code 263 = .ok (.iadd, 1) := by decide +kernel
theorem d_Law_law_264 : decode code 264 = .ok (.iaload, 1) := by decide +kernel
theorem d_Law_law_265 : decode code 265 = .ok (.invokestatic 89, 3) := by decide +kernel
theorem d_Law_law_268 : decode code 268 = .ok (.istore 5, 2) := by decide +kernel
theorem d_Law_law_270 : decode code 270 = .ok (.aload_n 2, 1) := by decide +kernel
theorem d_Law_law_271 : decode code 271 = .ok (.aload_n 0, 1) := by decide +kernel
theorem d_Law_law_272 : decode code 272 = .ok (.iload 4, 2) := by decide +kernel
theorem d_Law_law_274 : decode code 274 = .ok (.iconst 1, 1) := by decide +kernel
theorem d_Law_law_275 : decode code 275 = .ok (.iadd, 1) := by decide +kernel
theorem d_Law_law_276 : decode code 276 = .ok (.iaload, 1) := by decide +kernel
theorem d_Law_law_277 : decode code 277 = .ok (.aload_n 0, 1) := by decide +kernel
theorem d_Law_law_278 : decode code 278 = .ok (.iload 4, 2) := by decide +kernel
theorem d_Law_law_280 : decode code 280 = .ok (.iconst 2, 1) := by decide +kernel
theorem d_Law_law_281 : decode code 281 = .ok (.iadd, 1) := by decide +kernel
theorem d_Law_law_282 : decode code 282 = .ok (.iaload, 1) := by decide +kernel
theorem d_Law_law_283 : decode code 283 = .ok (.invokevirtual 92, 3) := by decide +kernel
theorem d_Law_law_286 : decode code 286 = .ok (.aload_n 2, 1) := by decide +kernel
theorem d_Law_law_287 : decode code 287 = .ok (.invokevirtual 82, 3) := by decide +kernel
theorem d_Law_law_290 : decode code 290 = .ok (.iload 5, 2) := by decide +kernel
theorem d_Law_law_292 : decode code 292 = .ok (.if_icmp .eq 5, 3) := by decide +kernel
theorem d_Law_law_295 : decode code 295 = .ok (.iconst 0, 1) := by decide +kernel
theorem d_Law_law_296 : decode code 296 = .ok (.ireturn, 1) := by decide +kernel
theorem d_Law_law_297 : decode code 297 = .ok (.goto 788, 3) := by decide +kernel
theorem d_Law_law_300 : decode code 300 = .ok (.aload_n 1, 1) := by decide +kernel
theorem d_Law_law_301 : decode code 301 = .ok (.aload_n 0, 1) := by decide +kernel
theorem d_Law_law_302 : decode code 302 = .ok (.iload 4, 2) := by decide +kernel
theorem d_Law_law_304 : decode code 304 = .ok (.iconst 1, 1) := by decide +kernel
theorem d_Law_law_305 : decode code 305 = .ok (.iadd, 1) := by decide +kernel
theorem d_Law_law_306 : decode code 306 = .ok (.iaload, 1) := by decide +kernel
theorem d_Law_law_307 : decode code 307 = .ok (.aload_n 0, 1) := by decide +kernel
theorem d_Law_law_308 : decode code 308 = .ok (.iload 4, 2) := by decide +kernel
theorem d_Law_law_310 : decode code 310 = .ok (.iconst 2, 1) := by decide +kernel
theorem d_Law_law_311 : decode code 311 = .ok (.iadd, 1) := by decide +kernel
theorem d_Law_law_312 : decode code 312 = .ok (.iaload, 1) := by decide +kernel
theorem d_Law_law_313 : decode code 313 = .ok (.aload_n 0, 1) := by decide +kernel
theorem d_Law_law_314 : decode code 314 = .ok (.iload 4, 2) := by decide +kernel
theorem d_Law_law_316 : decode code 316 = .ok (.iconst 3, 1) := by decide +kernel
theorem d_Law_law_317 : decode code 317 = .ok (.iadd, 1) := by decide +kernel
theorem d_Law_law_318 : decode code 318 = .ok (.iaload, 1) := by decide +kernel
theorem d_Law_law_319 : decode code 319 = .ok (.invokestatic 93, 3) := by decide +kernel
theorem d_Law_law_322 : decode code 322 = .ok (.istore 5, 2) := by decide +kernel
theorem d_Law_law_324 : decode code 324 = .ok (.aload_n 2, 1) := by decide +kernel
theorem d_Law_law_325 : decode code 325 = .ok (.aload_n 0, 1) := by decide +kernel
theorem d_Law_law_326 : decode code 326 = .ok (.iload 4, 2) := by decide +kernel
theorem d_Law_law_328 : decode code 328 = .ok (.iconst 1, 1) := by decide +kernel
theorem d_Law_law_329 : decode code 329 = .ok (.iadd, 1) := by decide +kernel
theorem d_Law_law_330 : decode code 330 = .ok (.iaload, 1) := by decide +kernel
theorem d_Law_law_331 : decode code 331 = .ok (.aload_n 0, 1) := by decide +kernel
theorem d_Law_law_332 : decode code 332 = .ok (.iload 4, 2) := by decide +kernel
theorem d_Law_law_334 : decode code 334 = .ok (.iconst 2, 1) := by decide +kernel
theorem d_Law_law_335 : decode code 335 = .ok (.iadd, 1) := by decide +kernel
theorem d_Law_law_336 : decode code 336 = .ok (.iaload, 1) := by decide +kernel
theorem d_Law_law_337 : decode code 337 = .ok (.aload_n 0, 1) := by decide +kernel
theorem d_Law_law_338 : decode code 338 = .ok (.iload 4, 2) := by decide +kernel
theorem d_Law_law_340 : decode code 340 = .ok (.iconst 3, 1) := by decide +kernel
theorem d_Law_law_341 : decode code 341 = .ok (.iadd, 1) := by decide +kernel
theorem d_Law_law_342 : decode code 342 = .ok (.iaload, 1) := by decide +kernel
theorem d_Law_law_343 : decode code 343 = .ok (.invokevirtual 95, 3) := by decide +kernel
theorem d_Law_law_346 : decode code 346 = .ok (.aload_n 2, 1) := by decide +kernel
theorem d_Law_law_347 : decode code 347 = .ok (.invokevirtual 82, 3) := by decide +kernel
theorem d_Law_law_350 : decode code 350 = .ok (.iload 5, 2) := by decide +kernel
theorem d_Law_law_352 : decode code 352 = .ok (.if_icmp .eq 5, 3) := by decide +kernel
theorem d_Law_law_355 : decode code 355 = .ok (.iconst 0, 1) := by decide +kernel
theorem d_Law_law_356 : decode code 356 = .ok (.ireturn, 1) := by decide +kernel
theorem d_Law_law_357 : decode code 357 = .ok (.goto 728, 3) := by decide +kernel
theorem d_Law_law_360 : decode code 360 = .ok (.aload_n 1, 1) := by decide +kernel
theorem d_Law_law_361 : decode code 361 = .ok (.aload_n 0, 1) := by decide +kernel
theorem d_Law_law_362 : decode code 362 = .ok (.iload 4, 2) := by decide +kernel
theorem d_Law_law_364 : decode code 364 = .ok (.iconst 1, 1) := by decide +kernel
theorem d_Law_law_365 : decode code 365 = .ok (.iadd, 1) := by decide +kernel
theorem d_Law_law_366 : decode code 366 = .ok (.iaload, 1) := by decide +kernel
theorem d_Law_law_367 : decode code 367 = .ok (.aload_n 0, 1) := by decide +kernel
theorem d_Law_law_368 : decode code 368 = .ok (.iload 4, 2) := by decide +kernel
theorem d_Law_law_370 : decode code 370 = .ok (.iconst 2, 1) := by decide +kernel
theorem d_Law_law_371 : decode code 371 = .ok (.iadd, 1) := by decide +kernel
theorem d_Law_law_372 : decode code 372 = .ok (.iaload, 1) := by decide +kernel
theorem d_Law_law_373 : decode code 373 = .ok (.invokestatic 96, 3) := by decide +kernel
theorem d_Law_law_376 : decode code 376 = .ok (.istore 5, 2) := by decide +kernel
theorem d_Law_law_378 : decode code 378 = .ok (.aload_n 2, 1) := by decide +kernel
theorem d_Law_law_379 : decode code 379 = .ok (.aload_n 0, 1) := by decide +kernel
theorem d_Law_law_380 : decode code 380 = .ok (.iload 4, 2) := by decide +kernel
theorem d_Law_law_382 : decode code 382 = .ok (.iconst 1, 1) := by decide +kernel
theorem d_Law_law_383 : decode code 383 = .ok (.iadd, 1) := by decide +kernel
theorem d_Law_law_384 : decode code 384 = .ok (.iaload, 1) := by decide +kernel
theorem d_Law_law_385 : decode code 385 = .ok (.aload_n 0, 1) := by decide +kernel
theorem d_Law_law_386 : decode code 386 = .ok (.iload 4, 2) := by decide +kernel
theorem d_Law_law_388 : decode code 388 = .ok (.iconst 2, 1) := by decide +kernel
theorem d_Law_law_389 : decode code 389 = .ok (.iadd, 1) := by decide +kernel
theorem d_Law_law_390 : decode code 390 = .ok (.iaload, 1) := by decide +kernel
theorem d_Law_law_391 : decode code 391 = .ok (.invokevirtual 98, 3) := by decide +kernel
theorem d_Law_law_394 : decode code 394 = .ok (.aload_n 2, 1) := by decide +kernel
theorem d_Law_law_395 : decode code 395 = .ok (.invokevirtual 82, 3) := by decide +kernel
theorem d_Law_law_398 : decode code 398 = .ok (.iload 5, 2) := by decide +kernel
theorem d_Law_law_400 : decode code 400 = .ok (.if_icmp .eq 5, 3) := by decide +kernel
theorem d_Law_law_403 : decode code 403 = .ok (.iconst 0, 1) := by decide +kernel
theorem d_Law_law_404 : decode code 404 = .ok (.ireturn, 1) := by decide +kernel
theorem d_Law_law_405 : decode code 405 = .ok (.goto 680, 3) := by decide +kernel
theorem d_Law_law_408 : decode code 408 = .ok (.aload_n 1, 1) := by decide +kernel
theorem d_Law_law_409 : decode code 409 = .ok (.aload_n 0, 1) := by decide +kernel
theorem d_Law_law_410 : decode code 410 = .ok (.iload 4, 2) := by decide +kernel
theorem d_Law_law_412 : decode code 412 = .ok (.iconst 1, 1) := by decide +kernel
theorem d_Law_law_413 : decode code 413 = .ok (.iadd, 1) := by decide +kernel
theorem d_Law_law_414 : decode code 414 = .ok (.iaload, 1) := by decide +kernel
theorem d_Law_law_415 : decode code 415 = .ok (.aload_n 0, 1) := by decide +kernel
theorem d_Law_law_416 : decode code 416 = .ok (.iload 4, 2) := by decide +kernel
theorem d_Law_law_418 : decode code 418 = .ok (.iconst 2, 1) := by decide +kernel
theorem d_Law_law_419 : decode code 419 = .ok (.iadd, 1) := by decide +kernel
theorem d_Law_law_420 : decode code 420 = .ok (.iaload, 1) := by decide +kernel
theorem d_Law_law_421 : decode code 421 = .ok (.aload_n 0, 1) := by decide +kernel
theorem d_Law_law_422 : decode code 422 = .ok (.iload 4, 2) := by decide +kernel
theorem d_Law_law_424 : decode code 424 = .ok (.iconst 3, 1) := by decide +kernel
theorem d_Law_law_425 : decode code 425 = .ok (.iadd, 1) := by decide +kernel
theorem d_Law_law_426 : decode code 426 = .ok (.iaload, 1) := by decide +kernel
theorem d_Law_law_427 : decode code 427 = .ok (.aload_n 0, 1) := by decide +kernel
theorem d_Law_law_428 : decode code 428 = .ok (.iload 4, 2) := by decide +kernel
theorem d_Law_law_430 : decode code 430 = .ok (.iconst 4, 1) := by decide +kernel
theorem d_Law_law_431 : decode code 431 = .ok (.iadd, 1) := by decide +kernel
theorem d_Law_law_432 : decode code 432 = .ok (.iaload, 1) := by decide +kernel
theorem d_Law_law_433 : decode code 433 = .ok (.invokestatic 99, 3) := by decide +kernel
theorem d_Law_law_436 : decode code 436 = .ok (.istore 5, 2) := by decide +kernel
theorem d_Law_law_438 : decode code 438 = .ok (.aload_n 2, 1) := by decide +kernel
theorem d_Law_law_439 : decode code 439 = .ok (.aload_n 0, 1) := by decide +kernel
theorem d_Law_law_440 : decode code 440 = .ok (.iload 4, 2) := by decide +kernel
theorem d_Law_law_442 : decode code 442 = .ok (.iconst 1, 1) := by decide +kernel
theorem d_Law_law_443 : decode code 443 = .ok (.iadd, 1) := by decide +kernel
theorem d_Law_law_444 : decode code 444 = .ok (.iaload, 1) := by decide +kernel
theorem d_Law_law_445 : decode code 445 = .ok (.aload_n 0, 1) := by decide +kernel
theorem d_Law_law_446 : decode code 446 = .ok (.iload 4, 2) := by decide +kernel
theorem d_Law_law_448 : decode code 448 = .ok (.iconst 2, 1) := by decide +kernel
theorem d_Law_law_449 : decode code 449 = .ok (.iadd, 1) := by decide +kernel
theorem d_Law_law_450 : decode code 450 = .ok (.iaload, 1) := by decide +kernel
theorem d_Law_law_451 : decode code 451 = .ok (.aload_n 0, 1) := by decide +kernel
theorem d_Law_law_452 : decode code 452 = .ok (.iload 4, 2) := by decide +kernel
theorem d_Law_law_454 : decode code 454 = .ok (.iconst 3, 1) := by decide +kernel
theorem d_Law_law_455 : decode code 455 = .ok (.iadd, 1) := by decide +kernel
theorem d_Law_law_456 : decode code 456 = .ok (.iaload, 1) := by decide +kernel
theorem d_Law_law_457 : decode code 457 = .ok (.aload_n 0, 1) := by decide +kernel
theorem d_Law_law_458 : decode code 458 = .ok (.iload 4, 2) := by decide +kernel
theorem d_Law_law_460 : decode code 460 = .ok (.iconst 4, 1) := by decide +kernel
theorem d_Law_law_461 : decode code 461 = .ok (.iadd, 1) := by decide +kernel
theorem d_Law_law_462 : decode code 462 = .ok (.iaload, 1) := by decide +kernel
theorem d_Law_law_463 : decode code 463 = .ok (.invokevirtual 101, 3) := by decide +kernel
theorem d_Law_law_466 : decode code 466 = .ok (.aload_n 2, 1) := by decide +kernel
theorem d_Law_law_467 : decode code 467 = .ok (.invokevirtual 82, 3) := by decide +kernel
theorem d_Law_law_470 : decode code 470 = .ok (.iload 5, 2) := by decide +kernel
theorem d_Law_law_472 : decode code 472 = .ok (.if_icmp .eq 5, 3) := by decide +kernel
theorem d_Law_law_475 : decode code 475 = .ok (.iconst 0, 1) := by decide +kernel
theorem d_Law_law_476 : decode code 476 = .ok (.ireturn, 1) := by decide +kernel
theorem d_Law_law_477 : decode code 477 = .ok (.goto 608, 3) := by decide +kernel
theorem d_Law_law_480 : decode code 480 = .ok (.aload_n 1, 1) := by decide +kernel
theorem d_Law_law_481 : decode code 481 = .ok (.aload_n 0, 1) := by decide +kernel
theorem d_Law_law_482 : decode code 482 = .ok (.iload 4, 2) := by decide +kernel
theorem d_Law_law_484 : decode code 484 = .ok (.iconst 1, 1) := by decide +kernel
theorem d_Law_law_485 : decode code 485 = .ok (.iadd, 1) := by decide +kernel
theorem d_Law_law_486 : decode code 486 = .ok (.iaload, 1) := by decide +kernel
theorem d_Law_law_487 : decode code 487 = .ok (.aload_n 0, 1) := by decide +kernel
theorem d_Law_law_488 : decode code 488 = .ok (.iload 4, 2) := by decide +kernel
theorem d_Law_law_490 : decode code 490 = .ok (.iconst 2, 1) := by decide +kernel
theorem d_Law_law_491 : decode code 491 = .ok (.iadd, 1) := by decide +kernel
theorem d_Law_law_492 : decode code 492 = .ok (.iaload, 1) := by decide +kernel
theorem d_Law_law_493 : decode code 493 = .ok (.aload_n 0, 1) := by decide +kernel
theorem d_Law_law_494 : decode code 494 = .ok (.iload 4, 2) := by decide +kernel
theorem d_Law_law_496 : decode code 496 = .ok (.iconst 3, 1) := by decide +kernel
theorem d_Law_law_497 : decode code 497 = .ok (.iadd, 1) := by decide +kernel
theorem d_Law_law_498 : decode code 498 = .ok (.iaload, 1) := by decide +kernel
theorem d_Law_law_499 : decode code 499 = .ok (.invokestatic 102, 3) := by decide +kernel
theorem d_Law_law_502 : decode code 502 = .ok (.istore 5, 2) := by decide +kernel
theorem d_Law_law_504 : decode code 504 = .ok (.aload_n 2, 1) := by decide +kernel
theorem d_Law_law_505 : decode code 505 = .ok (.aload_n 0, 1) := by decide +kernel
theorem d_Law_law_506 : decode code 506 = .ok (.iload 4, 2) := by decide +kernel
theorem d_Law_law_508 : decode code 508 = .ok (.iconst 1, 1) := by decide +kernel
theorem d_Law_law_509 : decode code 509 = .ok (.iadd, 1) := by decide +kernel
theorem d_Law_law_510 : decode code 510 = .ok (.iaload, 1) := by decide +kernel
theorem d_Law_law_511 : decode code 511 = .ok (.aload_n 0, 1) := by decide +kernel
theorem d_Law_law_512 : decode code 512 = .ok (.iload 4, 2) := by decide +kernel
theorem d_Law_law_514 : decode code 514 = .ok (.iconst 2, 1) := by decide +kernel
theorem d_Law_law_515 : decode code 515 = .ok (.iadd, 1) := by decide +kernel
theorem d_Law_law_516 : decode code 516 = .ok (.iaload, 1) := by decide +kernel
theorem d_Law_law_517 : decode code 517 = .ok (.aload_n 0, 1) := by decide +kernel
theorem d_Law_law_518 : decode code 518 = .ok (.iload 4, 2) := by decide +kernel
theorem d_Law_law_520 : decode code 520 = .ok (.iconst 3, 1) := by decide +kernel
theorem d_Law_law_521 : decode code 521 = .ok (.iadd, 1) := by decide +kernel
theorem d_Law_law_522 : decode code 522 = .ok (.iaload, 1) := by decide +kernel
theorem d_Law_law_523 : decode code 523 = .ok (.invokevirtual 104, 3) := by decide +kernel
theorem d_Law_law_526 : decode code 526 = .ok (.aload_n 2, 1) := by decide +kernel
theorem d_Law_law_527 : decode code 527 = .ok (.invokevirtual 82, 3) := by decide +kernel
theorem d_Law_law_530 : decode code 530 = .ok (.iload 5, 2) := by decide +kernel
theorem d_Law_law_532 : decode code 532 = .ok (.if_icmp .eq 5, 3) := by decide +kernel
theorem d_Law_law_535 : decode code 535 = .ok (.iconst 0, 1) := by decide +kernel
theorem d_Law_law_536 : decode code 536 = .ok (.ireturn, 1) := by decide +kernel
theorem d_Law_law_537 : decode code 537 = .ok (.goto 548, 3) := by decide +kernel
theorem d_Law_law_540 : decode code 540 = .ok (.aload_n 1, 1) := by decide +kernel
theorem d_Law_law_541 : decode code 541 = .ok (.aload_n 3, 1) := by decide +kernel
theorem d_Law_law_542 : decode code 542 = .ok (.invokestatic 105, 3) := by decide +kernel
theorem d_Law_law_545 : decode code 545 = .ok (.istore 5, 2) := by decide +kernel
theorem d_Law_law_547 : decode code 547 = .ok (.aload_n 2, 1) := by decide +kernel
theorem d_Law_law_548 : decode code 548 = .ok (.invokevirtual 108, 3) := by decide +kernel
theorem d_Law_law_551 : decode code 551 = .ok (.istore 6, 2) := by decide +kernel
theorem d_Law_law_553 : decode code 553 = .ok (.aload_n 2, 1) := by decide +kernel
theorem d_Law_law_554 : decode code 554 = .ok (.invokevirtual 82, 3) := by decide +kernel
theorem d_Law_law_557 : decode code 557 = .ok (.iload 5, 2) := by decide +kernel
theorem d_Law_law_559 : decode code 559 = .ok (.if_icmp .eq 5, 3) := by decide +kernel
theorem d_Law_law_562 : decode code 562 = .ok (.iconst 0, 1) := by decide +kernel
theorem d_Law_law_563 : decode code 563 = .ok (.ireturn, 1) := by decide +kernel
theorem d_Law_law_564 : decode code 564 = .ok (.iload 5, 2) := by decide +kernel
theorem d_Law_law_566 : decode code 566 = .ok (.ifCond .ne 22, 3) := by decide +kernel
theorem d_Law_law_569 : decode code 569 = .ok (.aload_n 3, 1) := by decide +kernel
theorem d_Law_law_570 : decode code 570 = .ok (.iconst 0, 1) := by decide +kernel
theorem d_Law_law_571 : decode code 571 = .ok (.laload, 1) := by decide +kernel
theorem d_Law_law_572 : decode code 572 = .ok (.iload 6, 2) := by decide +kernel
theorem d_Law_law_574 : decode code 574 = .ok (.ifCond .eq 7, 3) := by decide +kernel
theorem d_Law_law_577 : decode code 577 = .ok (.lconst 1, 1) := by decide +kernel
theorem d_Law_law_578 : decode code 578 = .ok (.goto 4, 3) := by decide +kernel
theorem d_Law_law_581 : decode code 581 = .ok (.lconst 0, 1) := by decide +kernel
theorem d_Law_law_582 : decode code 582 = .ok (.lcmp, 1) := by decide +kernel
theorem d_Law_law_583 : decode code 583 = .ok (.ifCond .eq 5, 3) := by decide +kernel
theorem d_Law_law_586 : decode code 586 = .ok (.iconst 0, 1) := by decide +kernel
theorem d_Law_law_587 : decode code 587 = .ok (.ireturn, 1) := by decide +kernel
theorem d_Law_law_588 : decode code 588 = .ok (.goto 497, 3) := by decide +kernel
theorem d_Law_law_591 : decode code 591 = .ok (.aload_n 1, 1) := by decide +kernel
theorem d_Law_law_592 : decode code 592 = .ok (.aload_n 0, 1) := by decide +kernel
theorem d_Law_law_593 : decode code 593 = .ok (.iload 4, 2) := by decide +kernel
theorem d_Law_law_595 : decode code 595 = .ok (.iconst 1, 1) := by decide +kernel
theorem d_Law_law_596 : decode code 596 = .ok (.iadd, 1) := by decide +kernel
theorem d_Law_law_597 : decode code 597 = .ok (.iaload, 1) := by decide +kernel
theorem d_Law_law_598 : decode code 598 = .ok (.aload_n 0, 1) := by decide +kernel
theorem d_Law_law_599 : decode code 599 = .ok (.iload 4, 2) := by decide +kernel
theorem d_Law_law_601 : decode code 601 = .ok (.iconst 2, 1) := by decide +kernel
theorem d_Law_law_602 : decode code 602 = .ok (.iadd, 1) := by decide +kernel
theorem d_Law_law_603 : decode code 603 = .ok (.iaload, 1) := by decide +kernel
theorem d_Law_law_604 : decode code 604 = .ok (.aload_n 0, 1) := by decide +kernel
theorem d_Law_law_605 : decode code 605 = .ok (.iload 4, 2) := by decide +kernel
theorem d_Law_law_607 : decode code 607 = .ok (.iconst 3, 1) := by decide +kernel
theorem d_Law_law_608 : decode code 608 = .ok (.iadd, 1) := by decide +kernel
theorem d_Law_law_609 : decode code 609 = .ok (.iaload, 1) := by decide +kernel
theorem d_Law_law_610 : decode code 610 = .ok (.invokestatic 109, 3) := by decide +kernel
theorem d_Law_law_613 : decode code 613 = .ok (.istore 5, 2) := by decide +kernel
theorem d_Law_law_615 : decode code 615 = .ok (.aload_n 2, 1) := by decide +kernel
theorem d_Law_law_616 : decode code 616 = .ok (.aload_n 0, 1) := by decide +kernel
theorem d_Law_law_617 : decode code 617 = .ok (.iload 4, 2) := by decide +kernel
theorem d_Law_law_619 : decode code 619 = .ok (.iconst 1, 1) := by decide +kernel
theorem d_Law_law_620 : decode code 620 = .ok (.iadd, 1) := by decide +kernel
theorem d_Law_law_621 : decode code 621 = .ok (.iaload, 1) := by decide +kernel
theorem d_Law_law_622 : decode code 622 = .ok (.aload_n 0, 1) := by decide +kernel
theorem d_Law_law_623 : decode code 623 = .ok (.iload 4, 2) := by decide +kernel
theorem d_Law_law_625 : decode code 625 = .ok (.iconst 2, 1) := by decide +kernel
theorem d_Law_law_626 : decode code 626 = .ok (.iadd, 1) := by decide +kernel
theorem d_Law_law_627 : decode code 627 = .ok (.iaload, 1) := by decide +kernel
theorem d_Law_law_628 : decode code 628 = .ok (.aload_n 0, 1) := by decide +kernel
theorem d_Law_law_629 : decode code 629 = .ok (.iload 4, 2) := by decide +kernel
theorem d_Law_law_631 : decode code 631 = .ok (.iconst 3, 1) := by decide +kernel
theorem d_Law_law_632 : decode code 632 = .ok (.iadd, 1) := by decide +kernel
theorem d_Law_law_633 : decode code 633 = .ok (.iaload, 1) := by decide +kernel
theorem d_Law_law_634 : decode code 634 = .ok (.invokevirtual 111, 3) := by decide +kernel
theorem d_Law_law_637 : decode code 637 = .ok (.aload_n 2, 1) := by decide +kernel
theorem d_Law_law_638 : decode code 638 = .ok (.invokevirtual 82, 3) := by decide +kernel
theorem d_Law_law_641 : decode code 641 = .ok (.iload 5, 2) := by decide +kernel
theorem d_Law_law_643 : decode code 643 = .ok (.if_icmp .eq 5, 3) := by decide +kernel
theorem d_Law_law_646 : decode code 646 = .ok (.iconst 0, 1) := by decide +kernel
theorem d_Law_law_647 : decode code 647 = .ok (.ireturn, 1) := by decide +kernel
theorem d_Law_law_648 : decode code 648 = .ok (.goto 437, 3) := by decide +kernel
theorem d_Law_law_651 : decode code 651 = .ok (.aload_n 1, 1) := by decide +kernel
theorem d_Law_law_652 : decode code 652 = .ok (.aload_n 3, 1) := by decide +kernel
theorem d_Law_law_653 : decode code 653 = .ok (.invokestatic 112, 3) := by decide +kernel
theorem d_Law_law_656 : decode code 656 = .ok (.istore 5, 2) := by decide +kernel
theorem d_Law_law_658 : decode code 658 = .ok (.aload_n 2, 1) := by decide +kernel
theorem d_Law_law_659 : decode code 659 = .ok (.invokevirtual 114, 3) := by decide +kernel
theorem d_Law_law_662 : decode code 662 = .ok (.istore 6, 2) := by decide +kernel
theorem d_Law_law_664 : decode code 664 = .ok (.aload_n 2, 1) := by decide +kernel
theorem d_Law_law_665 : decode code 665 = .ok (.invokevirtual 82, 3) := by decide +kernel
theorem d_Law_law_668 : decode code 668 = .ok (.iload 5, 2) := by decide +kernel
theorem d_Law_law_670 : decode code 670 = .ok (.if_icmp .eq 5, 3) := by decide +kernel
theorem d_Law_law_673 : decode code 673 = .ok (.iconst 0, 1) := by decide +kernel
theorem d_Law_law_674 : decode code 674 = .ok (.ireturn, 1) := by decide +kernel
theorem d_Law_law_675 : decode code 675 = .ok (.iload 5, 2) := by decide +kernel
theorem d_Law_law_677 : decode code 677 = .ok (.ifCond .ne 15, 3) := by decide +kernel
theorem d_Law_law_680 : decode code 680 = .ok (.aload_n 3, 1) := by decide +kernel
theorem d_Law_law_681 : decode code 681 = .ok (.iconst 0, 1) := by decide +kernel
theorem d_Law_law_682 : decode code 682 = .ok (.laload, 1) := by decide +kernel
theorem d_Law_law_683 : decode code 683 = .ok (.iload 6, 2) := by decide +kernel
theorem d_Law_law_685 : decode code 685 = .ok (.i2l, 1) := by decide +kernel
theorem d_Law_law_686 : decode code 686 = .ok (.lcmp, 1) := by decide +kernel
theorem d_Law_law_687 : decode code 687 = .ok (.ifCond .eq 5, 3) := by decide +kernel
theorem d_Law_law_690 : decode code 690 = .ok (.iconst 0, 1) := by decide +kernel
theorem d_Law_law_691 : decode code 691 = .ok (.ireturn, 1) := by decide +kernel
theorem d_Law_law_692 : decode code 692 = .ok (.goto 393, 3) := by decide +kernel
theorem d_Law_law_695 : decode code 695 = .ok (.aload_n 1, 1) := by decide +kernel
theorem d_Law_law_696 : decode code 696 = .ok (.aload_n 0, 1) := by decide +kernel
theorem d_Law_law_697 : decode code 697 = .ok (.iload 4, 2) := by decide +kernel
theorem d_Law_law_699 : decode code 699 = .ok (.iconst 1, 1) := by decide +kernel
theorem d_Law_law_700 : decode code 700 = .ok (.iadd, 1) := by decide +kernel
theorem d_Law_law_701 : decode code 701 = .ok (.iaload, 1) := by decide +kernel
theorem d_Law_law_702 : decode code 702 = .ok (.aload_n 3, 1) := by decide +kernel
theorem d_Law_law_703 : decode code 703 = .ok (.invokestatic 115, 3) := by decide +kernel
theorem d_Law_law_706 : decode code 706 = .ok (.istore 5, 2) := by decide +kernel
theorem d_Law_law_708 : decode code 708 = .ok (.aload_n 2, 1) := by decide +kernel
theorem d_Law_law_709 : decode code 709 = .ok (.aload_n 0, 1) := by decide +kernel
theorem d_Law_law_710 : decode code 710 = .ok (.iload 4, 2) := by decide +kernel
theorem d_Law_law_712 : decode code 712 = .ok (.iconst 1, 1) := by decide +kernel
theorem d_Law_law_713 : decode code 713 = .ok (.iadd, 1) := by decide +kernel
theorem d_Law_law_714 : decode code 714 = .ok (.iaload, 1) := by decide +kernel
theorem d_Law_law_715 : decode code 715 = .ok (.invokevirtual 118, 3) := by decide +kernel
theorem d_Law_law_718 : decode code 718 = .ok (.istore 6, 2) := by decide +kernel
theorem d_Law_law_720 : decode code 720 = .ok (.aload_n 2, 1) := by decide +kernel
theorem d_Law_law_721 : decode code 721 = .ok (.invokevirtual 82, 3) := by decide +kernel
theorem d_Law_law_724 : decode code 724 = .ok (.iload 5, 2) := by decide +kernel
theorem d_Law_law_726 : decode code 726 = .ok (.if_icmp .eq 5, 3) := by decide +kernel
theorem d_Law_law_729 : decode code 729 = .ok (.iconst 0, 1) := by decide +kernel
theorem d_Law_law_730 : decode code 730 = .ok (.ireturn, 1) := by decide +kernel
theorem d_Law_law_731 : decode code 731 = .ok (.iload 5, 2) := by decide +kernel
theorem d_Law_law_733 : decode code 733 = .ok (.ifCond .ne 15, 3) := by decide +kernel
theorem d_Law_law_736 : decode code 736 = .ok (.aload_n 3, 1) := by decide +kernel
theorem d_Law_law_737 : decode code 737 = .ok (.iconst 0, 1) := by decide +kernel
