theorem d_Gov_init_0 : decode prog_1_method_1_code 0 = .ok (.aload_n 0, 1) := by decide +kernel
theorem d_Gov_init_1 : decode prog_1_method_1_code 1 = .ok (.invokespecial 1, 3) := by decide +kernel
theorem d_Gov_init_4 : decode prog_1_method_1_code 4 = .ok (.aload_n 0, 1) := by decide +kernel
theorem d_Gov_init_5 : decode prog_1_method_1_code 5 = .ok (.new 7, 3) := by decide +kernel
theorem d_Gov_init_8 : decode prog_1_method_1_code 8 = .ok (.dup, 1) := by decide +kernel
theorem d_Gov_init_9 : decode prog_1_method_1_code 9 = .ok (.invokespecial 9, 3) := by decide +kernel
theorem d_Gov_init_12 : decode prog_1_method_1_code 12 = .ok (.putfield 10, 3) := by decide +kernel
theorem d_Gov_init_15 : decode prog_1_method_1_code 15 = .ok (.aload_n 0, 1) := by decide +kernel
theorem d_Gov_init_16 : decode prog_1_method_1_code 16 = .ok (.new 16, 3) := by decide +kernel
theorem d_Gov_init_19 : decode prog_1_method_1_code 19 = .ok (.dup, 1) := by decide +kernel
theorem d_Gov_init_20 : decode prog_1_method_1_code 20 = .ok (.aload_n 0, 1) := by decide +kernel
theorem d_Gov_init_21 : decode prog_1_method_1_code 21 = .ok (.getfield 10, 3) := by decide +kernel
theorem d_Gov_init_24 : decode prog_1_method_1_code 24 = .ok (.invokespecial 18, 3) := by decide +kernel
theorem d_Gov_init_27 : decode prog_1_method_1_code 27 = .ok (.putfield 21, 3) := by decide +kernel
theorem d_Gov_init_30 : decode prog_1_method_1_code 30 = .ok (.aload_n 0, 1) := by decide +kernel
theorem d_Gov_init_31 : decode prog_1_method_1_code 31 = .ok (.new 25, 3) := by decide +kernel
theorem d_Gov_init_34 : decode prog_1_method_1_code 34 = .ok (.dup, 1) := by decide +kernel
theorem d_Gov_init_35 : decode prog_1_method_1_code 35 = .ok (.invokespecial 27, 3) := by decide +kernel
theorem d_Gov_init_38 : decode prog_1_method_1_code 38 = .ok (.putfield 28, 3) := by decide +kernel
theorem d_Gov_init_41 : decode prog_1_method_1_code 41 = .ok (.aload_n 0, 1) := by decide +kernel
theorem d_Gov_init_42 : decode prog_1_method_1_code 42 = .ok (.new 32, 3) := by decide +kernel
theorem d_Gov_init_45 : decode prog_1_method_1_code 45 = .ok (.dup, 1) := by decide +kernel
theorem d_Gov_init_46 : decode prog_1_method_1_code 46 = .ok (.invokespecial 34, 3) := by decide +kernel
theorem d_Gov_init_49 : decode prog_1_method_1_code 49 = .ok (.putfield 35, 3) := by decide +kernel
theorem d_Gov_init_52 : decode prog_1_method_1_code 52 = .ok (.aload_n 0, 1) := by decide +kernel
theorem d_Gov_init_53 : decode prog_1_method_1_code 53 = .ok (.iconst 4, 1) := by decide +kernel
theorem d_Gov_init_54 : decode prog_1_method_1_code 54 = .ok (.newarray .int, 2) := by decide +kernel
theorem d_Gov_init_56 : decode prog_1_method_1_code 56 = .ok (.putfield 39, 3) := by decide +kernel
theorem d_Gov_init_59 : decode prog_1_method_1_code 59 = .ok (.aload_n 0, 1) := by decide +kernel
theorem d_Gov_init_60 : decode prog_1_method_1_code 60 = .ok (.iconst 0, 1) := by decide +kernel
theorem d_Gov_init_61 : decode prog_1_method_1_code 61 = .ok (.putfield 43, 3) := by decide +kernel
theorem d_Gov_init_64 : decode prog_1_method_1_code 64 = .ok (.return_, 1) := by decide +kernel
theorem d_Gov_capacity_0 : decode prog_1_method_2_code 0 = .ok (.iload_n 1, 1) := by decide +kernel
theorem d_Gov_capacity_1 : decode prog_1_method_2_code 1 = .ok (.bipush 6, 2) := by decide +kernel
theorem d_Gov_capacity_3 : decode prog_1_method_2_code 3 = .ok (.invokestatic 47, 3) := by decide +kernel
theorem d_Gov_capacity_6 : decode prog_1_method_2_code 6 = .ok (.iload_n 2, 1) := by decide +kernel
theorem d_Gov_capacity_7 : decode prog_1_method_2_code 7 = .ok (.iload_n 3, 1) := by decide +kernel
theorem d_Gov_capacity_8 : decode prog_1_method_2_code 8 = .ok (.iconst 1, 1) := by decide +kernel
theorem d_Gov_capacity_9 : decode prog_1_method_2_code 9 = .ok (.sipush 10000, 3) := by decide +kernel
theorem d_Gov_capacity_12 : decode prog_1_method_2_code 12 = .ok (.invokestatic 51, 3) := by decide +kernel
theorem d_Gov_capacity_15 : decode prog_1_method_2_code 15 = .ok (.aload_n 0, 1) := by decide +kernel
theorem d_Gov_capacity_16 : decode prog_1_method_2_code 16 = .ok (.invokevirtual 55, 3) := by decide +kernel
theorem d_Gov_capacity_19 : decode prog_1_method_2_code 19 = .ok (.aload_n 0, 1) := by decide +kernel
theorem d_Gov_capacity_20 : decode prog_1_method_2_code 20 = .ok (.getfield 10, 3) := by decide +kernel
theorem d_Gov_capacity_23 : decode prog_1_method_2_code 23 = .ok (.iload_n 1, 1) := by decide +kernel
theorem d_Gov_capacity_24 : decode prog_1_method_2_code 24 = .ok (.iload_n 2, 1) := by decide +kernel
theorem d_Gov_capacity_25 : decode prog_1_method_2_code 25 = .ok (.iload_n 3, 1) := by decide +kernel
theorem d_Gov_capacity_26 : decode prog_1_method_2_code 26 = .ok (.invokevirtual 58, 3) := by decide +kernel
theorem d_Gov_capacity_29 : decode prog_1_method_2_code 29 = .ok (.return_, 1) := by decide +kernel
theorem d_Gov_edge_0 : decode prog_1_method_3_code 0 = .ok (.iload_n 1, 1) := by decide +kernel
theorem d_Gov_edge_1 : decode prog_1_method_3_code 1 = .ok (.bipush 7, 2) := by decide +kernel
theorem d_Gov_edge_3 : decode prog_1_method_3_code 3 = .ok (.invokestatic 47, 3) := by decide +kernel
theorem d_Gov_edge_6 : decode prog_1_method_3_code 6 = .ok (.iload_n 2, 1) := by decide +kernel
theorem d_Gov_edge_7 : decode prog_1_method_3_code 7 = .ok (.bipush 7, 2) := by decide +kernel
theorem d_Gov_edge_9 : decode prog_1_method_3_code 9 = .ok (.invokestatic 47, 3) := by decide +kernel
theorem d_Gov_edge_12 : decode prog_1_method_3_code 12 = .ok (.iload_n 1, 1) := by decide +kernel
theorem d_Gov_edge_13 : decode prog_1_method_3_code 13 = .ok (.iload_n 2, 1) := by decide +kernel
theorem d_Gov_edge_14 : decode prog_1_method_3_code 14 = .ok (.if_icmp .ne 11, 3) := by decide +kernel
theorem d_Gov_edge_17 : decode prog_1_method_3_code 17 = .ok (.new 62, 3) := by decide +kernel
theorem d_Gov_edge_20 : decode prog_1_method_3_code 20 = .ok (.dup, 1) := by decide +kernel
theorem d_Gov_edge_21 : decode prog_1_method_3_code 21 = .ok (.invokespecial 64, 3) := by decide +kernel
theorem d_Gov_edge_24 : decode prog_1_method_3_code 24 = .ok (.athrow, 1) := by decide +kernel
theorem d_Gov_edge_25 : decode prog_1_method_3_code 25 = .ok (.iload_n 3, 1) := by decide +kernel
theorem d_Gov_edge_26 : decode prog_1_method_3_code 26 = .ok (.iload 4, 2) := by decide +kernel
theorem d_Gov_edge_28 : decode prog_1_method_3_code 28 = .ok (.iconst 0, 1) := by decide +kernel
theorem d_Gov_edge_29 : decode prog_1_method_3_code 29 = .ok (.sipush 500, 3) := by decide +kernel
theorem d_Gov_edge_32 : decode prog_1_method_3_code 32 = .ok (.invokestatic 51, 3) := by decide +kernel
theorem d_Gov_edge_35 : decode prog_1_method_3_code 35 = .ok (.aload_n 0, 1) := by decide +kernel
theorem d_Gov_edge_36 : decode prog_1_method_3_code 36 = .ok (.invokevirtual 55, 3) := by decide +kernel
theorem d_Gov_edge_39 : decode prog_1_method_3_code 39 = .ok (.aload_n 0, 1) := by decide +kernel
theorem d_Gov_edge_40 : decode prog_1_method_3_code 40 = .ok (.getfield 10, 3) := by decide +kernel
theorem d_Gov_edge_43 : decode prog_1_method_3_code 43 = .ok (.iload_n 1, 1) := by decide +kernel
theorem d_Gov_edge_44 : decode prog_1_method_3_code 44 = .ok (.iload_n 2, 1) := by decide +kernel
theorem d_Gov_edge_45 : decode prog_1_method_3_code 45 = .ok (.iload_n 3, 1) := by decide +kernel
theorem d_Gov_edge_46 : decode prog_1_method_3_code 46 = .ok (.iload 4, 2) := by decide +kernel
theorem d_Gov_edge_48 : decode prog_1_method_3_code 48 = .ok (.invokevirtual 65, 3) := by decide +kernel
theorem d_Gov_edge_51 : decode prog_1_method_3_code 51 = .ok (.return_, 1) := by decide +kernel
theorem d_Gov_limit_0 : decode prog_1_method_4_code 0 = .ok (.iload_n 1, 1) := by decide +kernel
theorem d_Gov_limit_1 : decode prog_1_method_4_code 1 = .ok (.bipush 6, 2) := by decide +kernel
theorem d_Gov_limit_3 : decode prog_1_method_4_code 3 = .ok (.invokestatic 47, 3) := by decide +kernel
theorem d_Gov_limit_6 : decode prog_1_method_4_code 6 = .ok (.iload_n 2, 1) := by decide +kernel
theorem d_Gov_limit_7 : decode prog_1_method_4_code 7 = .ok (.iconst 0, 1) := by decide +kernel
theorem d_Gov_limit_8 : decode prog_1_method_4_code 8 = .ok (.ldc 68, 2) := by decide +kernel
theorem d_Gov_limit_10 : decode prog_1_method_4_code 10 = .ok (.invokestatic 69, 3) := by decide +kernel
theorem d_Gov_limit_13 : decode prog_1_method_4_code 13 = .ok (.aload_n 0, 1) := by decide +kernel
theorem d_Gov_limit_14 : decode prog_1_method_4_code 14 = .ok (.invokevirtual 55, 3) := by decide +kernel
theorem d_Gov_limit_17 : decode prog_1_method_4_code 17 = .ok (.aload_n 0, 1) := by decide +kernel
theorem d_Gov_limit_18 : decode prog_1_method_4_code 18 = .ok (.getfield 10, 3) := by decide +kernel
theorem d_Gov_limit_21 : decode prog_1_method_4_code 21 = .ok (.getfield 72, 3) := by decide +kernel
theorem d_Gov_limit_24 : decode prog_1_method_4_code 24 = .ok (.iload_n 1, 1) := by decide +kernel
theorem d_Gov_limit_25 : decode prog_1_method_4_code 25 = .ok (.iload_n 2, 1) := by decide +kernel
theorem d_Gov_limit_26 : decode prog_1_method_4_code 26 = .ok (.iastore, 1) := by decide +kernel
theorem d_Gov_limit_27 : decode prog_1_method_4_code 27 = .ok (.return_, 1) := by decide +kernel
theorem d_Gov_air_0 : decode prog_1_method_5_code 0 = .ok (.iload_n 1, 1) := by decide +kernel
theorem d_Gov_air_1 : decode prog_1_method_5_code 1 = .ok (.iload_n 3, 1) := by decide +kernel
theorem d_Gov_air_2 : decode prog_1_method_5_code 2 = .ok (.iconst 0, 1) := by decide +kernel
theorem d_Gov_air_3 : decode prog_1_method_5_code 3 = .ok (.ldc 68, 2) := by decide +kernel
theorem d_Gov_air_5 : decode prog_1_method_5_code 5 = .ok (.invokestatic 51, 3) := by decide +kernel
theorem d_Gov_air_8 : decode prog_1_method_5_code 8 = .ok (.iload_n 2, 1) := by decide +kernel
theorem d_Gov_air_9 : decode prog_1_method_5_code 9 = .ok (.iload_n 1, 1) := by decide +kernel
theorem d_Gov_air_10 : decode prog_1_method_5_code 10 = .ok (.iload_n 3, 1) := by decide +kernel
theorem d_Gov_air_11 : decode prog_1_method_5_code 11 = .ok (.invokestatic 69, 3) := by decide +kernel
theorem d_Gov_air_14 : decode prog_1_method_5_code 14 = .ok (.aload_n 0, 1) := by decide +kernel
theorem d_Gov_air_15 : decode prog_1_method_5_code 15 = .ok (.invokevirtual 55, 3) := by decide +kernel
theorem d_Gov_air_18 : decode prog_1_method_5_code 18 = .ok (.aload_n 0, 1) := by decide +kernel
theorem d_Gov_air_19 : decode prog_1_method_5_code 19 = .ok (.getfield 10, 3) := by decide +kernel
theorem d_Gov_air_22 : decode prog_1_method_5_code 22 = .ok (.iload_n 2, 1) := by decide +kernel
theorem d_Gov_air_23 : decode prog_1_method_5_code 23 = .ok (.putfield 75, 3) := by decide +kernel
theorem d_Gov_air_26 : decode prog_1_method_5_code 26 = .ok (.aload_n 0, 1) := by decide +kernel
theorem d_Gov_air_27 : decode prog_1_method_5_code 27 = .ok (.getfield 10, 3) := by decide +kernel
theorem d_Gov_air_30 : decode prog_1_method_5_code 30 = .ok (.iload_n 3, 1) := by decide +kernel
theorem d_Gov_air_31 : decode prog_1_method_5_code 31 = .ok (.putfield 79, 3) := by decide +kernel
theorem d_Gov_air_34 : decode prog_1_method_5_code 34 = .ok (.return_, 1) := by decide +kernel
theorem d_Gov_power_0 : decode prog_1_method_6_code 0 = .ok (.iload_n 1, 1) := by decide +kernel
theorem d_Gov_power_1 : decode prog_1_method_6_code 1 = .ok (.iconst 4, 1) := by decide +kernel
theorem d_Gov_power_2 : decode prog_1_method_6_code 2 = .ok (.invokestatic 47, 3) := by decide +kernel
theorem d_Gov_power_5 : decode prog_1_method_6_code 5 = .ok (.iload_n 1, 1) := by decide +kernel
theorem d_Gov_power_6 : decode prog_1_method_6_code 6 = .ok (.ifCond .le 17, 3) := by decide +kernel
theorem d_Gov_power_9 : decode prog_1_method_6_code 9 = .ok (.aload_n 0, 1) := by decide +kernel
theorem d_Gov_power_10 : decode prog_1_method_6_code 10 = .ok (.getfield 10, 3) := by decide +kernel
theorem d_Gov_power_13 : decode prog_1_method_6_code 13 = .ok (.getfield 82, 3) := by decide +kernel
theorem d_Gov_power_16 : decode prog_1_method_6_code 16 = .ok (.iload_n 1, 1) := by decide +kernel
theorem d_Gov_power_17 : decode prog_1_method_6_code 17 = .ok (.iconst 1, 1) := by decide +kernel
theorem d_Gov_power_18 : decode prog_1_method_6_code 18 = .ok (.isub, 1) := by decide +kernel
theorem d_Gov_power_19 : decode prog_1_method_6_code 19 = .ok (.iaload, 1) := by decide +kernel
theorem d_Gov_power_20 : decode prog_1_method_6_code 20 = .ok (.goto 4, 3) := by decide +kernel
theorem d_Gov_power_23 : decode prog_1_method_6_code 23 = .ok (.iconst 0, 1) := by decide +kernel
theorem d_Gov_power_24 : decode prog_1_method_6_code 24 = .ok (.istore_n 3, 1) := by decide +kernel
theorem d_Gov_power_25 : decode prog_1_method_6_code 25 = .ok (.iload_n 1, 1) := by decide +kernel
theorem d_Gov_power_26 : decode prog_1_method_6_code 26 = .ok (.iconst 3, 1) := by decide +kernel
theorem d_Gov_power_27 : decode prog_1_method_6_code 27 = .ok (.if_icmp .ge 17, 3) := by decide +kernel
theorem d_Gov_power_30 : decode prog_1_method_6_code 30 = .ok (.aload_n 0, 1) := by decide +kernel
theorem d_Gov_power_31 : decode prog_1_method_6_code 31 = .ok (.getfield 10, 3) := by decide +kernel
theorem d_Gov_power_34 : decode prog_1_method_6_code 34 = .ok (.getfield 82, 3) := by decide +kernel
theorem d_Gov_power_37 : decode prog_1_method_6_code 37 = .ok (.iload_n 1, 1) := by decide +kernel
theorem d_Gov_power_38 : decode prog_1_method_6_code 38 = .ok (.iconst 1, 1) := by decide +kernel
theorem d_Gov_power_39 : decode prog_1_method_6_code 39 = .ok (.iadd, 1) := by decide +kernel
theorem d_Gov_power_40 : decode prog_1_method_6_code 40 = .ok (.iaload, 1) := by decide +kernel
theorem d_Gov_power_41 : decode prog_1_method_6_code 41 = .ok (.goto 5, 3) := by decide +kernel
theorem d_Gov_power_44 : decode prog_1_method_6_code 44 = .ok (.ldc 85, 2) := by decide +kernel
theorem d_Gov_power_46 : decode prog_1_method_6_code 46 = .ok (.istore 4, 2) := by decide +kernel
theorem d_Gov_power_48 : decode prog_1_method_6_code 48 = .ok (.iload_n 2, 1) := by decide +kernel
theorem d_Gov_power_49 : decode prog_1_method_6_code 49 = .ok (.iload_n 3, 1) := by decide +kernel
theorem d_Gov_power_50 : decode prog_1_method_6_code 50 = .ok (.iload 4, 2) := by decide +kernel
theorem d_Gov_power_52 : decode prog_1_method_6_code 52 = .ok (.invokestatic 69, 3) := by decide +kernel
theorem d_Gov_power_55 : decode prog_1_method_6_code 55 = .ok (.aload_n 0, 1) := by decide +kernel
theorem d_Gov_power_56 : decode prog_1_method_6_code 56 = .ok (.invokevirtual 55, 3) := by decide +kernel
theorem d_Gov_power_59 : decode prog_1_method_6_code 59 = .ok (.aload_n 0, 1) := by decide +kernel
theorem d_Gov_power_60 : decode prog_1_method_6_code 60 = .ok (.getfield 10, 3) := by decide +kernel
theorem d_Gov_power_63 : decode prog_1_method_6_code 63 = .ok (.getfield 82, 3) := by decide +kernel
theorem d_Gov_power_66 : decode prog_1_method_6_code 66 = .ok (.iload_n 1, 1) := by decide +kernel
theorem d_Gov_power_67 : decode prog_1_method_6_code 67 = .ok (.iload_n 2, 1) := by decide +kernel
theorem d_Gov_power_68 : decode prog_1_method_6_code 68 = .ok (.iastore, 1) := by decide +kernel
theorem d_Gov_power_69 : decode prog_1_method_6_code 69 = .ok (.return_, 1) := by decide +kernel
theorem d_Gov_leak_0 : decode prog_1_method_7_code 0 = .ok (.iload_n 1, 1) := by decide +kernel
theorem d_Gov_leak_1 : decode prog_1_method_7_code 1 = .ok (.iconst 0, 1) := by decide +kernel
theorem d_Gov_leak_2 : decode prog_1_method_7_code 2 = .ok (.ldc 86, 2) := by decide +kernel
theorem d_Gov_leak_4 : decode prog_1_method_7_code 4 = .ok (.invokestatic 69, 3) := by decide +kernel
theorem d_Gov_leak_7 : decode prog_1_method_7_code 7 = .ok (.iload_n 2, 1) := by decide +kernel
theorem d_Gov_leak_8 : decode prog_1_method_7_code 8 = .ok (.iconst 0, 1) := by decide +kernel
theorem d_Gov_leak_9 : decode prog_1_method_7_code 9 = .ok (.bipush 100, 2) := by decide +kernel
theorem d_Gov_leak_11 : decode prog_1_method_7_code 11 = .ok (.invokestatic 69, 3) := by decide +kernel
theorem d_Gov_leak_14 : decode prog_1_method_7_code 14 = .ok (.iload_n 3, 1) := by decide +kernel
theorem d_Gov_leak_15 : decode prog_1_method_7_code 15 = .ok (.iconst 0, 1) := by decide +kernel
theorem d_Gov_leak_16 : decode prog_1_method_7_code 16 = .ok (.bipush 100, 2) := by decide +kernel
theorem d_Gov_leak_18 : decode prog_1_method_7_code 18 = .ok (.invokestatic 69, 3) := by decide +kernel
theorem d_Gov_leak_21 : decode prog_1_method_7_code 21 = .ok (.iload 4, 2) := by decide +kernel
theorem d_Gov_leak_23 : decode prog_1_method_7_code 23 = .ok (.iconst 0, 1) := by decide +kernel
theorem d_Gov_leak_24 : decode prog_1_method_7_code 24 = .ok (.ldc 68, 2) := by decide +kernel
theorem d_Gov_leak_26 : decode prog_1_method_7_code 26 = .ok (.invokestatic 69, 3) := by decide +kernel
theorem d_Gov_leak_29 : decode prog_1_method_7_code 29 = .ok (.aload_n 0, 1) := by decide +kernel
theorem d_Gov_leak_30 : decode prog_1_method_7_code 30 = .ok (.invokevirtual 55, 3) := by decide +kernel
theorem d_Gov_leak_33 : decode prog_1_method_7_code 33 = .ok (.aload_n 0, 1) := by decide +kernel
theorem d_Gov_leak_34 : decode prog_1_method_7_code 34 = .ok (.getfield 10, 3) := by decide +kernel
theorem d_Gov_leak_37 : decode prog_1_method_7_code 37 = .ok (.iload_n 1, 1) := by decide +kernel
theorem d_Gov_leak_38 : decode prog_1_method_7_code 38 = .ok (.iload_n 2, 1) := by decide +kernel
theorem d_Gov_leak_39 : decode prog_1_method_7_code 39 = .ok (.iload_n 3, 1) := by decide +kernel
theorem d_Gov_leak_40 : decode prog_1_method_7_code 40 = .ok (.iload 4, 2) := by decide +kernel
theorem d_Gov_leak_42 : decode prog_1_method_7_code 42 = .ok (.invokevirtual 87, 3) := by decide +kernel
theorem d_Gov_leak_45 : decode prog_1_method_7_code 45 = .ok (.return_, 1) := by decide +kernel
theorem d_Gov_truth_0 : decode prog_1_method_8_code 0 = .ok (.iload_n 1, 1) := by decide +kernel
theorem d_Gov_truth_1 : decode prog_1_method_8_code 1 = .ok (.bipush 7, 2) := by decide +kernel
theorem d_Gov_truth_3 : decode prog_1_method_8_code 3 = .ok (.invokestatic 47, 3) := by decide +kernel
theorem d_Gov_truth_6 : decode prog_1_method_8_code 6 = .ok (.iload_n 2, 1) := by decide +kernel
theorem d_Gov_truth_7 : decode prog_1_method_8_code 7 = .ok (.bipush 7, 2) := by decide +kernel
theorem d_Gov_truth_9 : decode prog_1_method_8_code 9 = .ok (.invokestatic 47, 3) := by decide +kernel
theorem d_Gov_truth_12 : decode prog_1_method_8_code 12 = .ok (.iload_n 1, 1) := by decide +kernel
theorem d_Gov_truth_13 : decode prog_1_method_8_code 13 = .ok (.iload_n 2, 1) := by decide +kernel
theorem d_Gov_truth_14 : decode prog_1_method_8_code 14 = .ok (.if_icmp .ne 48, 3) := by decide +kernel
theorem d_Gov_truth_17 : decode prog_1_method_8_code 17 = .ok (.iload_n 1, 1) := by decide +kernel
theorem d_Gov_truth_18 : decode prog_1_method_8_code 18 = .ok (.bipush 6, 2) := by decide +kernel
theorem d_Gov_truth_20 : decode prog_1_method_8_code 20 = .ok (.invokestatic 47, 3) := by decide +kernel
theorem d_Gov_truth_23 : decode prog_1_method_8_code 23 = .ok (.iload_n 3, 1) := by decide +kernel
theorem d_Gov_truth_24 : decode prog_1_method_8_code 24 = .ok (.aload_n 0, 1) := by decide +kernel
theorem d_Gov_truth_25 : decode prog_1_method_8_code 25 = .ok (.getfield 10, 3) := by decide +kernel
theorem d_Gov_truth_28 : decode prog_1_method_8_code 28 = .ok (.getfield 90, 3) := by decide +kernel
theorem d_Gov_truth_31 : decode prog_1_method_8_code 31 = .ok (.iload_n 1, 1) := by decide +kernel
theorem d_Gov_truth_32 : decode prog_1_method_8_code 32 = .ok (.iaload, 1) := by decide +kernel
theorem d_Gov_truth_33 : decode prog_1_method_8_code 33 = .ok (.aload_n 0, 1) := by decide +kernel
theorem d_Gov_truth_34 : decode prog_1_method_8_code 34 = .ok (.getfield 10, 3) := by decide +kernel
theorem d_Gov_truth_37 : decode prog_1_method_8_code 37 = .ok (.getfield 93, 3) := by decide +kernel
theorem d_Gov_truth_40 : decode prog_1_method_8_code 40 = .ok (.iload_n 1, 1) := by decide +kernel
theorem d_Gov_truth_41 : decode prog_1_method_8_code 41 = .ok (.iaload, 1) := by decide +kernel
theorem d_Gov_truth_42 : decode prog_1_method_8_code 42 = .ok (.invokestatic 69, 3) := by decide +kernel
theorem d_Gov_truth_45 : decode prog_1_method_8_code 45 = .ok (.aload_n 0, 1) := by decide +kernel
theorem d_Gov_truth_46 : decode prog_1_method_8_code 46 = .ok (.invokevirtual 55, 3) := by decide +kernel
theorem d_Gov_truth_49 : decode prog_1_method_8_code 49 = .ok (.aload_n 0, 1) := by decide +kernel
theorem d_Gov_truth_50 : decode prog_1_method_8_code 50 = .ok (.getfield 10, 3) := by decide +kernel
theorem d_Gov_truth_53 : decode prog_1_method_8_code 53 = .ok (.getfield 96, 3) := by decide +kernel
theorem d_Gov_truth_56 : decode prog_1_method_8_code 56 = .ok (.iload_n 1, 1) := by decide +kernel
theorem d_Gov_truth_57 : decode prog_1_method_8_code 57 = .ok (.iload_n 3, 1) := by decide +kernel
theorem d_Gov_truth_58 : decode prog_1_method_8_code 58 = .ok (.iastore, 1) := by decide +kernel
theorem d_Gov_truth_59 : decode prog_1_method_8_code 59 = .ok (.goto 47, 3) := by decide +kernel
theorem d_Gov_truth_62 : decode prog_1_method_8_code 62 = .ok (.iload_n 3, 1) := by decide +kernel
theorem d_Gov_truth_63 : decode prog_1_method_8_code 63 = .ok (.aload_n 0, 1) := by decide +kernel
theorem d_Gov_truth_64 : decode prog_1_method_8_code 64 = .ok (.getfield 10, 3) := by decide +kernel
theorem d_Gov_truth_67 : decode prog_1_method_8_code 67 = .ok (.getfield 99, 3) := by decide +kernel
theorem d_Gov_truth_70 : decode prog_1_method_8_code 70 = .ok (.iload_n 1, 1) := by decide +kernel
theorem d_Gov_truth_71 : decode prog_1_method_8_code 71 = .ok (.iload_n 2, 1) := by decide +kernel
theorem d_Gov_truth_72 : decode prog_1_method_8_code 72 = .ok (.invokestatic 102, 3) := by decide +kernel
theorem d_Gov_truth_75 : decode prog_1_method_8_code 75 = .ok (.iaload, 1) := by decide +kernel
theorem d_Gov_truth_76 : decode prog_1_method_8_code 76 = .ok (.aload_n 0, 1) := by decide +kernel
theorem d_Gov_truth_77 : decode prog_1_method_8_code 77 = .ok (.getfield 10, 3) := by decide +kernel
theorem d_Gov_truth_80 : decode prog_1_method_8_code 80 = .ok (.getfield 106, 3) := by decide +kernel
theorem d_Gov_truth_83 : decode prog_1_method_8_code 83 = .ok (.iload_n 1, 1) := by decide +kernel
theorem d_Gov_truth_84 : decode prog_1_method_8_code 84 = .ok (.iload_n 2, 1) := by decide +kernel
theorem d_Gov_truth_85 : decode prog_1_method_8_code 85 = .ok (.invokestatic 102, 3) := by decide +kernel
theorem d_Gov_truth_88 : decode prog_1_method_8_code 88 = .ok (.iaload, 1) := by decide +kernel
theorem d_Gov_truth_89 : decode prog_1_method_8_code 89 = .ok (.invokestatic 69, 3) := by decide +kernel
theorem d_Gov_truth_92 : decode prog_1_method_8_code 92 = .ok (.aload_n 0, 1) := by decide +kernel
theorem d_Gov_truth_93 : decode prog_1_method_8_code 93 = .ok (.invokevirtual 55, 3) := by decide +kernel
theorem d_Gov_truth_96 : decode prog_1_method_8_code 96 = .ok (.aload_n 0, 1) := by decide +kernel
theorem d_Gov_truth_97 : decode prog_1_method_8_code 97 = .ok (.getfield 10, 3) := by decide +kernel
theorem d_Gov_truth_100 : decode prog_1_method_8_code 100 = .ok (.iload_n 1, 1) := by decide +kernel
theorem d_Gov_truth_101 : decode prog_1_method_8_code 101 = .ok (.iload_n 2, 1) := by decide +kernel
theorem d_Gov_truth_102 : decode prog_1_method_8_code 102 = .ok (.iload_n 3, 1) := by decide +kernel
theorem d_Gov_truth_103 : decode prog_1_method_8_code 103 = .ok (.invokevirtual 109, 3) := by decide +kernel
theorem d_Gov_truth_106 : decode prog_1_method_8_code 106 = .ok (.return_, 1) := by decide +kernel
theorem d_Gov_seal_0 : decode prog_1_method_9_code 0 = .ok (.aload_n 0, 1) := by decide +kernel
theorem d_Gov_seal_1 : decode prog_1_method_9_code 1 = .ok (.invokevirtual 55, 3) := by decide +kernel
theorem d_Gov_seal_4 : decode prog_1_method_9_code 4 = .ok (.aload_n 0, 1) := by decide +kernel
theorem d_Gov_seal_5 : decode prog_1_method_9_code 5 = .ok (.getfield 10, 3) := by decide +kernel
theorem d_Gov_seal_8 : decode prog_1_method_9_code 8 = .ok (.invokevirtual 112, 3) := by decide +kernel
theorem d_Gov_seal_11 : decode prog_1_method_9_code 11 = .ok (.ifCond .eq 13, 3) := by decide +kernel
theorem d_Gov_seal_14 : decode prog_1_method_9_code 14 = .ok (.aload_n 0, 1) := by decide +kernel
theorem d_Gov_seal_15 : decode prog_1_method_9_code 15 = .ok (.getfield 10, 3) := by decide +kernel
theorem d_Gov_seal_18 : decode prog_1_method_9_code 18 = .ok (.invokevirtual 116, 3) := by decide +kernel
theorem d_Gov_seal_21 : decode prog_1_method_9_code 21 = .ok (.ifCond .ne 5, 3) := by decide +kernel
theorem d_Gov_seal_24 : decode prog_1_method_9_code 24 = .ok (.iconst 0, 1) := by decide +kernel
theorem d_Gov_seal_25 : decode prog_1_method_9_code 25 = .ok (.ireturn, 1) := by decide +kernel
theorem d_Gov_seal_26 : decode prog_1_method_9_code 26 = .ok (.aload_n 0, 1) := by decide +kernel
theorem d_Gov_seal_27 : decode prog_1_method_9_code 27 = .ok (.getfield 28, 3) := by decide +kernel
theorem d_Gov_seal_30 : decode prog_1_method_9_code 30 = .ok (.aload_n 0, 1) := by decide +kernel
theorem d_Gov_seal_31 : decode prog_1_method_9_code 31 = .ok (.getfield 10, 3) := by decide +kernel
theorem d_Gov_seal_34 : decode prog_1_method_9_code 34 = .ok (.invokevirtual 119, 3) := by decide +kernel
theorem d_Gov_seal_37 : decode prog_1_method_9_code 37 = .ok (.aload_n 0, 1) := by decide +kernel
theorem d_Gov_seal_38 : decode prog_1_method_9_code 38 = .ok (.getfield 35, 3) := by decide +kernel
theorem d_Gov_seal_41 : decode prog_1_method_9_code 41 = .ok (.invokevirtual 122, 3) := by decide +kernel
theorem d_Gov_seal_44 : decode prog_1_method_9_code 44 = .ok (.aload_n 0, 1) := by decide +kernel
theorem d_Gov_seal_45 : decode prog_1_method_9_code 45 = .ok (.aload_n 0, 1) := by decide +kernel
theorem d_Gov_seal_46 : decode prog_1_method_9_code 46 = .ok (.getfield 21, 3) := by decide +kernel
theorem d_Gov_seal_49 : decode prog_1_method_9_code 49 = .ok (.aload_n 0, 1) := by decide +kernel
theorem d_Gov_seal_50 : decode prog_1_method_9_code 50 = .ok (.getfield 28, 3) := by decide +kernel
theorem d_Gov_seal_53 : decode prog_1_method_9_code 53 = .ok (.getfield 124, 3) := by decide +kernel
theorem d_Gov_seal_56 : decode prog_1_method_9_code 56 = .ok (.aload_n 0, 1) := by decide +kernel
theorem d_Gov_seal_57 : decode prog_1_method_9_code 57 = .ok (.getfield 35, 3) := by decide +kernel
theorem d_Gov_seal_60 : decode prog_1_method_9_code 60 = .ok (.getfield 127, 3) := by decide +kernel
theorem d_Gov_seal_63 : decode prog_1_method_9_code 63 = .ok (.invokevirtual 130, 3) := by decide +kernel
theorem d_Gov_seal_66 : decode prog_1_method_9_code 66 = .ok (.putfield 43, 3) := by decide +kernel
theorem d_Gov_seal_69 : decode prog_1_method_9_code 69 = .ok (.aload_n 0, 1) := by decide +kernel
theorem d_Gov_seal_70 : decode prog_1_method_9_code 70 = .ok (.getfield 43, 3) := by decide +kernel
theorem d_Gov_seal_73 : decode prog_1_method_9_code 73 = .ok (.ireturn, 1) := by decide +kernel
theorem d_Gov_ask_0 : decode prog_1_method_10_code 0 = .ok (.iload_n 1, 1) := by decide +kernel
theorem d_Gov_ask_1 : decode prog_1_method_10_code 1 = .ok (.iconst 4, 1) := by decide +kernel
theorem d_Gov_ask_2 : decode prog_1_method_10_code 2 = .ok (.invokestatic 47, 3) := by decide +kernel
theorem d_Gov_ask_5 : decode prog_1_method_10_code 5 = .ok (.iload_n 2, 1) := by decide +kernel
theorem d_Gov_ask_6 : decode prog_1_method_10_code 6 = .ok (.iconst 0, 1) := by decide +kernel
theorem d_Gov_ask_7 : decode prog_1_method_10_code 7 = .ok (.iconst 3, 1) := by decide +kernel
theorem d_Gov_ask_8 : decode prog_1_method_10_code 8 = .ok (.invokestatic 69, 3) := by decide +kernel
theorem d_Gov_ask_11 : decode prog_1_method_10_code 11 = .ok (.iload_n 3, 1) := by decide +kernel
theorem d_Gov_ask_12 : decode prog_1_method_10_code 12 = .ok (.iconst 0, 1) := by decide +kernel
theorem d_Gov_ask_13 : decode prog_1_method_10_code 13 = .ok (.bipush 9, 2) := by decide +kernel
theorem d_Gov_ask_15 : decode prog_1_method_10_code 15 = .ok (.invokestatic 69, 3) := by decide +kernel
theorem d_Gov_ask_18 : decode prog_1_method_10_code 18 = .ok (.aload_n 0, 1) := by decide +kernel
theorem d_Gov_ask_19 : decode prog_1_method_10_code 19 = .ok (.invokevirtual 134, 3) := by decide +kernel
theorem d_Gov_ask_22 : decode prog_1_method_10_code 22 = .ok (.aload_n 0, 1) := by decide +kernel
theorem d_Gov_ask_23 : decode prog_1_method_10_code 23 = .ok (.getfield 35, 3) := by decide +kernel
theorem d_Gov_ask_26 : decode prog_1_method_10_code 26 = .ok (.getfield 137, 3) := by decide +kernel
theorem d_Gov_ask_29 : decode prog_1_method_10_code 29 = .ok (.iload_n 1, 1) := by decide +kernel
theorem d_Gov_ask_30 : decode prog_1_method_10_code 30 = .ok (.iload_n 2, 1) := by decide +kernel
theorem d_Gov_ask_31 : decode prog_1_method_10_code 31 = .ok (.iastore, 1) := by decide +kernel
theorem d_Gov_ask_32 : decode prog_1_method_10_code 32 = .ok (.aload_n 0, 1) := by decide +kernel
theorem d_Gov_ask_33 : decode prog_1_method_10_code 33 = .ok (.getfield 35, 3) := by decide +kernel
theorem d_Gov_ask_36 : decode prog_1_method_10_code 36 = .ok (.getfield 140, 3) := by decide +kernel
theorem d_Gov_ask_39 : decode prog_1_method_10_code 39 = .ok (.iload_n 1, 1) := by decide +kernel
theorem d_Gov_ask_40 : decode prog_1_method_10_code 40 = .ok (.iload_n 3, 1) := by decide +kernel
theorem d_Gov_ask_41 : decode prog_1_method_10_code 41 = .ok (.iastore, 1) := by decide +kernel
theorem d_Gov_ask_42 : decode prog_1_method_10_code 42 = .ok (.return_, 1) := by decide +kernel
theorem d_Gov_period_0 : decode prog_1_method_11_code 0 = .ok (.aload_n 0, 1) := by decide +kernel
theorem d_Gov_period_1 : decode prog_1_method_11_code 1 = .ok (.invokevirtual 134, 3) := by decide +kernel
theorem d_Gov_period_4 : decode prog_1_method_11_code 4 = .ok (.aload_n 0, 1) := by decide +kernel
theorem d_Gov_period_5 : decode prog_1_method_11_code 5 = .ok (.getfield 35, 3) := by decide +kernel
theorem d_Gov_period_8 : decode prog_1_method_11_code 8 = .ok (.aload_n 0, 1) := by decide +kernel
theorem d_Gov_period_9 : decode prog_1_method_11_code 9 = .ok (.getfield 21, 3) := by decide +kernel
theorem d_Gov_period_12 : decode prog_1_method_11_code 12 = .ok (.aload_n 0, 1) := by decide +kernel
theorem d_Gov_period_13 : decode prog_1_method_11_code 13 = .ok (.getfield 28, 3) := by decide +kernel
theorem d_Gov_period_16 : decode prog_1_method_11_code 16 = .ok (.getfield 124, 3) := by decide +kernel
theorem d_Gov_period_19 : decode prog_1_method_11_code 19 = .ok (.invokevirtual 143, 3) := by decide +kernel
theorem d_Gov_period_22 : decode prog_1_method_11_code 22 = .ok (.ireturn, 1) := by decide +kernel
theorem d_Gov_tick_0 : decode prog_1_method_12_code 0 = .ok (.iload_n 1, 1) := by decide +kernel
theorem d_Gov_tick_1 : decode prog_1_method_12_code 1 = .ok (.iconst 1, 1) := by decide +kernel
theorem d_Gov_tick_2 : decode prog_1_method_12_code 2 = .ok (.bipush 100, 2) := by decide +kernel
theorem d_Gov_tick_4 : decode prog_1_method_12_code 4 = .ok (.invokestatic 69, 3) := by decide +kernel
theorem d_Gov_tick_7 : decode prog_1_method_12_code 7 = .ok (.aload_n 0, 1) := by decide +kernel
theorem d_Gov_tick_8 : decode prog_1_method_12_code 8 = .ok (.invokevirtual 134, 3) := by decide +kernel
theorem d_Gov_tick_11 : decode prog_1_method_12_code 11 = .ok (.iconst 0, 1) := by decide +kernel
theorem d_Gov_tick_12 : decode prog_1_method_12_code 12 = .ok (.istore_n 2, 1) := by decide +kernel
theorem d_Gov_tick_13 : decode prog_1_method_12_code 13 = .ok (.iconst 0, 1) := by decide +kernel
theorem d_Gov_tick_14 : decode prog_1_method_12_code 14 = .ok (.istore_n 3, 1) := by decide +kernel
theorem d_Gov_tick_15 : decode prog_1_method_12_code 15 = .ok (.iload_n 3, 1) := by decide +kernel
theorem d_Gov_tick_16 : decode prog_1_method_12_code 16 = .ok (.iload_n 1, 1) := by decide +kernel
theorem d_Gov_tick_17 : decode prog_1_method_12_code 17 = .ok (.if_icmp .ge 44, 3) := by decide +kernel
theorem d_Gov_tick_20 : decode prog_1_method_12_code 20 = .ok (.aload_n 0, 1) := by decide +kernel
theorem d_Gov_tick_21 : decode prog_1_method_12_code 21 = .ok (.getfield 35, 3) := by decide +kernel
theorem d_Gov_tick_24 : decode prog_1_method_12_code 24 = .ok (.invokevirtual 147, 3) := by decide +kernel
theorem d_Gov_tick_27 : decode prog_1_method_12_code 27 = .ok (.ifCond .eq 6, 3) := by decide +kernel
theorem d_Gov_tick_30 : decode prog_1_method_12_code 30 = .ok (.iinc 2 1, 3) := by decide +kernel
theorem d_Gov_tick_33 : decode prog_1_method_12_code 33 = .ok (.aload_n 0, 1) := by decide +kernel
theorem d_Gov_tick_34 : decode prog_1_method_12_code 34 = .ok (.getfield 28, 3) := by decide +kernel
theorem d_Gov_tick_37 : decode prog_1_method_12_code 37 = .ok (.aload_n 0, 1) := by decide +kernel
theorem d_Gov_tick_38 : decode prog_1_method_12_code 38 = .ok (.getfield 10, 3) := by decide +kernel
theorem d_Gov_tick_41 : decode prog_1_method_12_code 41 = .ok (.aload_n 0, 1) := by decide +kernel
theorem d_Gov_tick_42 : decode prog_1_method_12_code 42 = .ok (.getfield 35, 3) := by decide +kernel
theorem d_Gov_tick_45 : decode prog_1_method_12_code 45 = .ok (.invokevirtual 150, 3) := by decide +kernel
theorem d_Gov_tick_48 : decode prog_1_method_12_code 48 = .ok (.aload_n 0, 1) := by decide +kernel
theorem d_Gov_tick_49 : decode prog_1_method_12_code 49 = .ok (.getfield 35, 3) := by decide +kernel
theorem d_Gov_tick_52 : decode prog_1_method_12_code 52 = .ok (.invokevirtual 154, 3) := by decide +kernel
theorem d_Gov_tick_55 : decode prog_1_method_12_code 55 = .ok (.iinc 3 1, 3) := by decide +kernel
theorem d_Gov_tick_58 : decode prog_1_method_12_code 58 = .ok (.goto (-43), 3) := by decide +kernel
theorem d_Gov_tick_61 : decode prog_1_method_12_code 61 = .ok (.iload_n 2, 1) := by decide +kernel
theorem d_Gov_tick_62 : decode prog_1_method_12_code 62 = .ok (.ireturn, 1) := by decide +kernel
theorem d_Gov_draw_0 : decode prog_1_method_13_code 0 = .ok (.iload_n 1, 1) := by decide +kernel
theorem d_Gov_draw_1 : decode prog_1_method_13_code 1 = .ok (.iconst 4, 1) := by decide +kernel
theorem d_Gov_draw_2 : decode prog_1_method_13_code 2 = .ok (.invokestatic 47, 3) := by decide +kernel
theorem d_Gov_draw_5 : decode prog_1_method_13_code 5 = .ok (.iload_n 2, 1) := by decide +kernel
theorem d_Gov_draw_6 : decode prog_1_method_13_code 6 = .ok (.iconst 0, 1) := by decide +kernel
theorem d_Gov_draw_7 : decode prog_1_method_13_code 7 = .ok (.ldc 85, 2) := by decide +kernel
theorem d_Gov_draw_9 : decode prog_1_method_13_code 9 = .ok (.invokestatic 69, 3) := by decide +kernel
theorem d_Gov_draw_12 : decode prog_1_method_13_code 12 = .ok (.aload_n 0, 1) := by decide +kernel
theorem d_Gov_draw_13 : decode prog_1_method_13_code 13 = .ok (.invokevirtual 134, 3) := by decide +kernel
theorem d_Gov_draw_16 : decode prog_1_method_13_code 16 = .ok (.aload_n 0, 1) := by decide +kernel
theorem d_Gov_draw_17 : decode prog_1_method_13_code 17 = .ok (.getfield 35, 3) := by decide +kernel
theorem d_Gov_draw_20 : decode prog_1_method_13_code 20 = .ok (.getfield 156, 3) := by decide +kernel
theorem d_Gov_draw_23 : decode prog_1_method_13_code 23 = .ok (.iload_n 1, 1) := by decide +kernel
theorem d_Gov_draw_24 : decode prog_1_method_13_code 24 = .ok (.iload_n 2, 1) := by decide +kernel
theorem d_Gov_draw_25 : decode prog_1_method_13_code 25 = .ok (.iastore, 1) := by decide +kernel
theorem d_Gov_draw_26 : decode prog_1_method_13_code 26 = .ok (.return_, 1) := by decide +kernel
theorem d_Gov_sensor_0 : decode prog_1_method_14_code 0 = .ok (.iload_n 1, 1) := by decide +kernel
theorem d_Gov_sensor_1 : decode prog_1_method_14_code 1 = .ok (.bipush 6, 2) := by decide +kernel
theorem d_Gov_sensor_3 : decode prog_1_method_14_code 3 = .ok (.invokestatic 47, 3) := by decide +kernel
theorem d_Gov_sensor_6 : decode prog_1_method_14_code 6 = .ok (.iload_n 2, 1) := by decide +kernel
theorem d_Gov_sensor_7 : decode prog_1_method_14_code 7 = .ok (.sipush (-200), 3) := by decide +kernel
theorem d_Gov_sensor_10 : decode prog_1_method_14_code 10 = .ok (.sipush 200, 3) := by decide +kernel
theorem d_Gov_sensor_13 : decode prog_1_method_14_code 13 = .ok (.invokestatic 69, 3) := by decide +kernel
theorem d_Gov_sensor_16 : decode prog_1_method_14_code 16 = .ok (.aload_n 0, 1) := by decide +kernel
theorem d_Gov_sensor_17 : decode prog_1_method_14_code 17 = .ok (.invokevirtual 134, 3) := by decide +kernel
theorem d_Gov_sensor_20 : decode prog_1_method_14_code 20 = .ok (.aload_n 0, 1) := by decide +kernel
theorem d_Gov_sensor_21 : decode prog_1_method_14_code 21 = .ok (.getfield 28, 3) := by decide +kernel
theorem d_Gov_sensor_24 : decode prog_1_method_14_code 24 = .ok (.getfield 159, 3) := by decide +kernel
theorem d_Gov_sensor_27 : decode prog_1_method_14_code 27 = .ok (.iload_n 1, 1) := by decide +kernel
theorem d_Gov_sensor_28 : decode prog_1_method_14_code 28 = .ok (.iload_n 2, 1) := by decide +kernel
theorem d_Gov_sensor_29 : decode prog_1_method_14_code 29 = .ok (.iastore, 1) := by decide +kernel
theorem d_Gov_sensor_30 : decode prog_1_method_14_code 30 = .ok (.aload_n 0, 1) := by decide +kernel
theorem d_Gov_sensor_31 : decode prog_1_method_14_code 31 = .ok (.getfield 28, 3) := by decide +kernel
theorem d_Gov_sensor_34 : decode prog_1_method_14_code 34 = .ok (.getfield 162, 3) := by decide +kernel
theorem d_Gov_sensor_37 : decode prog_1_method_14_code 37 = .ok (.iload_n 1, 1) := by decide +kernel
theorem d_Gov_sensor_38 : decode prog_1_method_14_code 38 = .ok (.iload_n 3, 1) := by decide +kernel
theorem d_Gov_sensor_39 : decode prog_1_method_14_code 39 = .ok (.bastore, 1) := by decide +kernel
theorem d_Gov_sensor_40 : decode prog_1_method_14_code 40 = .ok (.return_, 1) := by decide +kernel
theorem d_Gov_ahead_0 : decode prog_1_method_15_code 0 = .ok (.iload_n 1, 1) := by decide +kernel
theorem d_Gov_ahead_1 : decode prog_1_method_15_code 1 = .ok (.iconst 0, 1) := by decide +kernel
theorem d_Gov_ahead_2 : decode prog_1_method_15_code 2 = .ok (.sipush 255, 3) := by decide +kernel
theorem d_Gov_ahead_5 : decode prog_1_method_15_code 5 = .ok (.invokestatic 69, 3) := by decide +kernel
theorem d_Gov_ahead_8 : decode prog_1_method_15_code 8 = .ok (.aload_n 0, 1) := by decide +kernel
theorem d_Gov_ahead_9 : decode prog_1_method_15_code 9 = .ok (.invokevirtual 134, 3) := by decide +kernel
theorem d_Gov_ahead_12 : decode prog_1_method_15_code 12 = .ok (.iconst 0, 1) := by decide +kernel
theorem d_Gov_ahead_13 : decode prog_1_method_15_code 13 = .ok (.istore_n 2, 1) := by decide +kernel
theorem d_Gov_ahead_14 : decode prog_1_method_15_code 14 = .ok (.iload_n 2, 1) := by decide +kernel
theorem d_Gov_ahead_15 : decode prog_1_method_15_code 15 = .ok (.iconst 4, 1) := by decide +kernel
theorem d_Gov_ahead_16 : decode prog_1_method_15_code 16 = .ok (.if_icmp .ge 22, 3) := by decide +kernel
theorem d_Gov_ahead_19 : decode prog_1_method_15_code 19 = .ok (.aload_n 0, 1) := by decide +kernel
theorem d_Gov_ahead_20 : decode prog_1_method_15_code 20 = .ok (.getfield 39, 3) := by decide +kernel
theorem d_Gov_ahead_23 : decode prog_1_method_15_code 23 = .ok (.iload_n 2, 1) := by decide +kernel
theorem d_Gov_ahead_24 : decode prog_1_method_15_code 24 = .ok (.iload_n 1, 1) := by decide +kernel
theorem d_Gov_ahead_25 : decode prog_1_method_15_code 25 = .ok (.iconst 2, 1) := by decide +kernel
theorem d_Gov_ahead_26 : decode prog_1_method_15_code 26 = .ok (.iload_n 2, 1) := by decide +kernel
theorem d_Gov_ahead_27 : decode prog_1_method_15_code 27 = .ok (.imul, 1) := by decide +kernel
theorem d_Gov_ahead_28 : decode prog_1_method_15_code 28 = .ok (.ishr, 1) := by decide +kernel
theorem d_Gov_ahead_29 : decode prog_1_method_15_code 29 = .ok (.iconst 3, 1) := by decide +kernel
theorem d_Gov_ahead_30 : decode prog_1_method_15_code 30 = .ok (.iand, 1) := by decide +kernel
theorem d_Gov_ahead_31 : decode prog_1_method_15_code 31 = .ok (.iastore, 1) := by decide +kernel
theorem d_Gov_ahead_32 : decode prog_1_method_15_code 32 = .ok (.iinc 2 1, 3) := by decide +kernel
theorem d_Gov_ahead_35 : decode prog_1_method_15_code 35 = .ok (.goto (-21), 3) := by decide +kernel
theorem d_Gov_ahead_38 : decode prog_1_method_15_code 38 = .ok (.aload_n 0, 1) := by decide +kernel
theorem d_Gov_ahead_39 : decode prog_1_method_15_code 39 = .ok (.getfield 21, 3) := by decide +kernel
theorem d_Gov_ahead_42 : decode prog_1_method_15_code 42 = .ok (.aload_n 0, 1) := by decide +kernel
theorem d_Gov_ahead_43 : decode prog_1_method_15_code 43 = .ok (.getfield 28, 3) := by decide +kernel
theorem d_Gov_ahead_46 : decode prog_1_method_15_code 46 = .ok (.getfield 124, 3) := by decide +kernel
theorem d_Gov_ahead_49 : decode prog_1_method_15_code 49 = .ok (.aload_n 0, 1) := by decide +kernel
theorem d_Gov_ahead_50 : decode prog_1_method_15_code 50 = .ok (.getfield 39, 3) := by decide +kernel
theorem d_Gov_ahead_53 : decode prog_1_method_15_code 53 = .ok (.invokevirtual 130, 3) := by decide +kernel
theorem d_Gov_ahead_56 : decode prog_1_method_15_code 56 = .ok (.ireturn, 1) := by decide +kernel
theorem d_Gov_node_0 : decode prog_1_method_16_code 0 = .ok (.iload_n 1, 1) := by decide +kernel
theorem d_Gov_node_1 : decode prog_1_method_16_code 1 = .ok (.bipush 6, 2) := by decide +kernel
theorem d_Gov_node_3 : decode prog_1_method_16_code 3 = .ok (.invokestatic 47, 3) := by decide +kernel
theorem d_Gov_node_6 : decode prog_1_method_16_code 6 = .ok (.iload_n 2, 1) := by decide +kernel
theorem d_Gov_node_7 : decode prog_1_method_16_code 7 = .ok (.iconst 4, 1) := by decide +kernel
theorem d_Gov_node_8 : decode prog_1_method_16_code 8 = .ok (.invokestatic 47, 3) := by decide +kernel
theorem d_Gov_node_11 : decode prog_1_method_16_code 11 = .ok (.aload_n 0, 1) := by decide +kernel
theorem d_Gov_node_12 : decode prog_1_method_16_code 12 = .ok (.invokevirtual 134, 3) := by decide +kernel
theorem d_Gov_node_15 : decode prog_1_method_16_code 15 = .ok (.iload_n 2, 1) := by decide +kernel
theorem d_Gov_node_16 : decode prog_1_method_16_code 16 = .ok (.tableswitch 58 0 2 #[28, 38, 48], 28) := by decide +kernel
theorem d_Gov_node_44 : decode prog_1_method_16_code 44 = .ok (.aload_n 0, 1) := by decide +kernel
theorem d_Gov_node_45 : decode prog_1_method_16_code 45 = .ok (.getfield 28, 3) := by decide +kernel
theorem d_Gov_node_48 : decode prog_1_method_16_code 48 = .ok (.getfield 166, 3) := by decide +kernel
theorem d_Gov_node_51 : decode prog_1_method_16_code 51 = .ok (.iload_n 1, 1) := by decide +kernel
theorem d_Gov_node_52 : decode prog_1_method_16_code 52 = .ok (.iaload, 1) := by decide +kernel
theorem d_Gov_node_53 : decode prog_1_method_16_code 53 = .ok (.ireturn, 1) := by decide +kernel
theorem d_Gov_node_54 : decode prog_1_method_16_code 54 = .ok (.aload_n 0, 1) := by decide +kernel
theorem d_Gov_node_55 : decode prog_1_method_16_code 55 = .ok (.getfield 28, 3) := by decide +kernel
theorem d_Gov_node_58 : decode prog_1_method_16_code 58 = .ok (.getfield 124, 3) := by decide +kernel
theorem d_Gov_node_61 : decode prog_1_method_16_code 61 = .ok (.iload_n 1, 1) := by decide +kernel
theorem d_Gov_node_62 : decode prog_1_method_16_code 62 = .ok (.iaload, 1) := by decide +kernel
theorem d_Gov_node_63 : decode prog_1_method_16_code 63 = .ok (.ireturn, 1) := by decide +kernel
theorem d_Gov_node_64 : decode prog_1_method_16_code 64 = .ok (.aload_n 0, 1) := by decide +kernel
theorem d_Gov_node_65 : decode prog_1_method_16_code 65 = .ok (.getfield 28, 3) := by decide +kernel
theorem d_Gov_node_68 : decode prog_1_method_16_code 68 = .ok (.getfield 169, 3) := by decide +kernel
theorem d_Gov_node_71 : decode prog_1_method_16_code 71 = .ok (.iload_n 1, 1) := by decide +kernel
theorem d_Gov_node_72 : decode prog_1_method_16_code 72 = .ok (.iaload, 1) := by decide +kernel
theorem d_Gov_node_73 : decode prog_1_method_16_code 73 = .ok (.ireturn, 1) := by decide +kernel
theorem d_Gov_node_74 : decode prog_1_method_16_code 74 = .ok (.aload_n 0, 1) := by decide +kernel
theorem d_Gov_node_75 : decode prog_1_method_16_code 75 = .ok (.getfield 28, 3) := by decide +kernel
theorem d_Gov_node_78 : decode prog_1_method_16_code 78 = .ok (.getfield 162, 3) := by decide +kernel
theorem d_Gov_node_81 : decode prog_1_method_16_code 81 = .ok (.iload_n 1, 1) := by decide +kernel
theorem d_Gov_node_82 : decode prog_1_method_16_code 82 = .ok (.baload, 1) := by decide +kernel
theorem d_Gov_node_83 : decode prog_1_method_16_code 83 = .ok (.ifCond .eq 14, 3) := by decide +kernel
theorem d_Gov_node_86 : decode prog_1_method_16_code 86 = .ok (.aload_n 0, 1) := by decide +kernel
theorem d_Gov_node_87 : decode prog_1_method_16_code 87 = .ok (.getfield 28, 3) := by decide +kernel
theorem d_Gov_node_90 : decode prog_1_method_16_code 90 = .ok (.iload_n 1, 1) := by decide +kernel
theorem d_Gov_node_91 : decode prog_1_method_16_code 91 = .ok (.invokevirtual 172, 3) := by decide +kernel
theorem d_Gov_node_94 : decode prog_1_method_16_code 94 = .ok (.goto 4, 3) := by decide +kernel
theorem d_Gov_node_97 : decode prog_1_method_16_code 97 = .ok (.iconst (-1), 1) := by decide +kernel
theorem d_Gov_node_98 : decode prog_1_method_16_code 98 = .ok (.ireturn, 1) := by decide +kernel
theorem d_Gov_core_0 : decode prog_1_method_17_code 0 = .ok (.iload_n 1, 1) := by decide +kernel
theorem d_Gov_core_1 : decode prog_1_method_17_code 1 = .ok (.iconst 4, 1) := by decide +kernel
theorem d_Gov_core_2 : decode prog_1_method_17_code 2 = .ok (.invokestatic 47, 3) := by decide +kernel
theorem d_Gov_core_5 : decode prog_1_method_17_code 5 = .ok (.iload_n 2, 1) := by decide +kernel
theorem d_Gov_core_6 : decode prog_1_method_17_code 6 = .ok (.iconst 4, 1) := by decide +kernel
theorem d_Gov_core_7 : decode prog_1_method_17_code 7 = .ok (.invokestatic 47, 3) := by decide +kernel
theorem d_Gov_core_10 : decode prog_1_method_17_code 10 = .ok (.aload_n 0, 1) := by decide +kernel
theorem d_Gov_core_11 : decode prog_1_method_17_code 11 = .ok (.invokevirtual 134, 3) := by decide +kernel
theorem d_Gov_core_14 : decode prog_1_method_17_code 14 = .ok (.iload_n 2, 1) := by decide +kernel
theorem d_Gov_core_15 : decode prog_1_method_17_code 15 = .ok (.tableswitch 55 0 2 #[25, 35, 45], 25) := by decide +kernel
theorem d_Gov_core_40 : decode prog_1_method_17_code 40 = .ok (.aload_n 0, 1) := by decide +kernel
theorem d_Gov_core_41 : decode prog_1_method_17_code 41 = .ok (.getfield 35, 3) := by decide +kernel
theorem d_Gov_core_44 : decode prog_1_method_17_code 44 = .ok (.getfield 127, 3) := by decide +kernel
theorem d_Gov_core_47 : decode prog_1_method_17_code 47 = .ok (.iload_n 1, 1) := by decide +kernel
theorem d_Gov_core_48 : decode prog_1_method_17_code 48 = .ok (.iaload, 1) := by decide +kernel
theorem d_Gov_core_49 : decode prog_1_method_17_code 49 = .ok (.ireturn, 1) := by decide +kernel
theorem d_Gov_core_50 : decode prog_1_method_17_code 50 = .ok (.aload_n 0, 1) := by decide +kernel
theorem d_Gov_core_51 : decode prog_1_method_17_code 51 = .ok (.getfield 35, 3) := by decide +kernel
theorem d_Gov_core_54 : decode prog_1_method_17_code 54 = .ok (.getfield 137, 3) := by decide +kernel
theorem d_Gov_core_57 : decode prog_1_method_17_code 57 = .ok (.iload_n 1, 1) := by decide +kernel
theorem d_Gov_core_58 : decode prog_1_method_17_code 58 = .ok (.iaload, 1) := by decide +kernel
theorem d_Gov_core_59 : decode prog_1_method_17_code 59 = .ok (.ireturn, 1) := by decide +kernel
theorem d_Gov_core_60 : decode prog_1_method_17_code 60 = .ok (.aload_n 0, 1) := by decide +kernel
theorem d_Gov_core_61 : decode prog_1_method_17_code 61 = .ok (.getfield 35, 3) := by decide +kernel
theorem d_Gov_core_64 : decode prog_1_method_17_code 64 = .ok (.getfield 176, 3) := by decide +kernel
theorem d_Gov_core_67 : decode prog_1_method_17_code 67 = .ok (.iload_n 1, 1) := by decide +kernel
theorem d_Gov_core_68 : decode prog_1_method_17_code 68 = .ok (.iaload, 1) := by decide +kernel
theorem d_Gov_core_69 : decode prog_1_method_17_code 69 = .ok (.ireturn, 1) := by decide +kernel
theorem d_Gov_core_70 : decode prog_1_method_17_code 70 = .ok (.aload_n 0, 1) := by decide +kernel
theorem d_Gov_core_71 : decode prog_1_method_17_code 71 = .ok (.getfield 35, 3) := by decide +kernel
theorem d_Gov_core_74 : decode prog_1_method_17_code 74 = .ok (.iload_n 1, 1) := by decide +kernel
theorem d_Gov_core_75 : decode prog_1_method_17_code 75 = .ok (.aload_n 0, 1) := by decide +kernel
theorem d_Gov_core_76 : decode prog_1_method_17_code 76 = .ok (.getfield 10, 3) := by decide +kernel
theorem d_Gov_core_79 : decode prog_1_method_17_code 79 = .ok (.invokevirtual 179, 3) := by decide +kernel
theorem d_Gov_core_82 : decode prog_1_method_17_code 82 = .ok (.ireturn, 1) := by decide +kernel
theorem d_Gov_open_0 : decode prog_1_method_18_code 0 = .ok (.aload_n 0, 1) := by decide +kernel
theorem d_Gov_open_1 : decode prog_1_method_18_code 1 = .ok (.getfield 10, 3) := by decide +kernel
theorem d_Gov_open_4 : decode prog_1_method_18_code 4 = .ok (.invokevirtual 183, 3) := by decide +kernel
theorem d_Gov_open_7 : decode prog_1_method_18_code 7 = .ok (.aload_n 0, 1) := by decide +kernel
theorem d_Gov_open_8 : decode prog_1_method_18_code 8 = .ok (.iconst 0, 1) := by decide +kernel
theorem d_Gov_open_9 : decode prog_1_method_18_code 9 = .ok (.putfield 43, 3) := by decide +kernel
theorem d_Gov_open_12 : decode prog_1_method_18_code 12 = .ok (.return_, 1) := by decide +kernel
theorem d_Gov_needIndex_0 : decode prog_1_method_19_code 0 = .ok (.iload_n 0, 1) := by decide +kernel
theorem d_Gov_needIndex_1 : decode prog_1_method_19_code 1 = .ok (.ifCond .lt 8, 3) := by decide +kernel
theorem d_Gov_needIndex_4 : decode prog_1_method_19_code 4 = .ok (.iload_n 0, 1) := by decide +kernel
theorem d_Gov_needIndex_5 : decode prog_1_method_19_code 5 = .ok (.iload_n 1, 1) := by decide +kernel
theorem d_Gov_needIndex_6 : decode prog_1_method_19_code 6 = .ok (.if_icmp .lt 11, 3) := by decide +kernel
theorem d_Gov_needIndex_9 : decode prog_1_method_19_code 9 = .ok (.new 62, 3) := by decide +kernel
theorem d_Gov_needIndex_12 : decode prog_1_method_19_code 12 = .ok (.dup, 1) := by decide +kernel
theorem d_Gov_needIndex_13 : decode prog_1_method_19_code 13 = .ok (.invokespecial 64, 3) := by decide +kernel
theorem d_Gov_needIndex_16 : decode prog_1_method_19_code 16 = .ok (.athrow, 1) := by decide +kernel
theorem d_Gov_needIndex_17 : decode prog_1_method_19_code 17 = .ok (.return_, 1) := by decide +kernel
theorem d_Gov_needWithin_0 : decode prog_1_method_20_code 0 = .ok (.iload_n 0, 1) := by decide +kernel
theorem d_Gov_needWithin_1 : decode prog_1_method_20_code 1 = .ok (.iload_n 1, 1) := by decide +kernel
theorem d_Gov_needWithin_2 : decode prog_1_method_20_code 2 = .ok (.if_icmp .lt 8, 3) := by decide +kernel
theorem d_Gov_needWithin_5 : decode prog_1_method_20_code 5 = .ok (.iload_n 0, 1) := by decide +kernel
theorem d_Gov_needWithin_6 : decode prog_1_method_20_code 6 = .ok (.iload_n 2, 1) := by decide +kernel
theorem d_Gov_needWithin_7 : decode prog_1_method_20_code 7 = .ok (.if_icmp .le 11, 3) := by decide +kernel
theorem d_Gov_needWithin_10 : decode prog_1_method_20_code 10 = .ok (.new 186, 3) := by decide +kernel
theorem d_Gov_needWithin_13 : decode prog_1_method_20_code 13 = .ok (.dup, 1) := by decide +kernel
theorem d_Gov_needWithin_14 : decode prog_1_method_20_code 14 = .ok (.invokespecial 188, 3) := by decide +kernel
theorem d_Gov_needWithin_17 : decode prog_1_method_20_code 17 = .ok (.athrow, 1) := by decide +kernel
theorem d_Gov_needWithin_18 : decode prog_1_method_20_code 18 = .ok (.return_, 1) := by decide +kernel
theorem d_Gov_needRange_0 : decode prog_1_method_21_code 0 = .ok (.iload_n 0, 1) := by decide +kernel
theorem d_Gov_needRange_1 : decode prog_1_method_21_code 1 = .ok (.iload_n 2, 1) := by decide +kernel
theorem d_Gov_needRange_2 : decode prog_1_method_21_code 2 = .ok (.if_icmp .lt 13, 3) := by decide +kernel
theorem d_Gov_needRange_5 : decode prog_1_method_21_code 5 = .ok (.iload_n 0, 1) := by decide +kernel
theorem d_Gov_needRange_6 : decode prog_1_method_21_code 6 = .ok (.iload_n 1, 1) := by decide +kernel
theorem d_Gov_needRange_7 : decode prog_1_method_21_code 7 = .ok (.if_icmp .gt 8, 3) := by decide +kernel
theorem d_Gov_needRange_10 : decode prog_1_method_21_code 10 = .ok (.iload_n 1, 1) := by decide +kernel
theorem d_Gov_needRange_11 : decode prog_1_method_21_code 11 = .ok (.iload_n 3, 1) := by decide +kernel
theorem d_Gov_needRange_12 : decode prog_1_method_21_code 12 = .ok (.if_icmp .le 11, 3) := by decide +kernel
theorem d_Gov_needRange_15 : decode prog_1_method_21_code 15 = .ok (.new 186, 3) := by decide +kernel
theorem d_Gov_needRange_18 : decode prog_1_method_21_code 18 = .ok (.dup, 1) := by decide +kernel
theorem d_Gov_needRange_19 : decode prog_1_method_21_code 19 = .ok (.invokespecial 188, 3) := by decide +kernel
theorem d_Gov_needRange_22 : decode prog_1_method_21_code 22 = .ok (.athrow, 1) := by decide +kernel
theorem d_Gov_needRange_23 : decode prog_1_method_21_code 23 = .ok (.return_, 1) := by decide +kernel
theorem d_Gov_needSealed_0 : decode prog_1_method_22_code 0 = .ok (.aload_n 0, 1) := by decide +kernel
theorem d_Gov_needSealed_1 : decode prog_1_method_22_code 1 = .ok (.getfield 43, 3) := by decide +kernel
theorem d_Gov_needSealed_4 : decode prog_1_method_22_code 4 = .ok (.ifCond .ne 11, 3) := by decide +kernel
theorem d_Gov_needSealed_7 : decode prog_1_method_22_code 7 = .ok (.new 189, 3) := by decide +kernel
theorem d_Gov_needSealed_10 : decode prog_1_method_22_code 10 = .ok (.dup, 1) := by decide +kernel
theorem d_Gov_needSealed_11 : decode prog_1_method_22_code 11 = .ok (.invokespecial 191, 3) := by decide +kernel
theorem d_Gov_needSealed_14 : decode prog_1_method_22_code 14 = .ok (.athrow, 1) := by decide +kernel
theorem d_Gov_needSealed_15 : decode prog_1_method_22_code 15 = .ok (.return_, 1) := by decide +kernel
theorem d_Gov_needUnsealed_0 : decode prog_1_method_23_code 0 = .ok (.aload_n 0, 1) := by decide +kernel
theorem d_Gov_needUnsealed_1 : decode prog_1_method_23_code 1 = .ok (.getfield 43, 3) := by decide +kernel
theorem d_Gov_needUnsealed_4 : decode prog_1_method_23_code 4 = .ok (.ifCond .eq 11, 3) := by decide +kernel
theorem d_Gov_needUnsealed_7 : decode prog_1_method_23_code 7 = .ok (.new 189, 3) := by decide +kernel
theorem d_Gov_needUnsealed_10 : decode prog_1_method_23_code 10 = .ok (.dup, 1) := by decide +kernel
theorem d_Gov_needUnsealed_11 : decode prog_1_method_23_code 11 = .ok (.invokespecial 191, 3) := by decide +kernel
theorem d_Gov_needUnsealed_14 : decode prog_1_method_23_code 14 = .ok (.athrow, 1) := by decide +kernel
theorem d_Gov_needUnsealed_15 : decode prog_1_method_23_code 15 = .ok (.return_, 1) := by decide +kernel
theorem d_Gov_between_0 : decode prog_1_method_24_code 0 = .ok (.iload_n 0, 1) := by decide +kernel
theorem d_Gov_between_1 : decode prog_1_method_24_code 1 = .ok (.bipush 7, 2) := by decide +kernel
theorem d_Gov_between_3 : decode prog_1_method_24_code 3 = .ok (.imul, 1) := by decide +kernel
theorem d_Gov_between_4 : decode prog_1_method_24_code 4 = .ok (.iload_n 1, 1) := by decide +kernel
theorem d_Gov_between_5 : decode prog_1_method_24_code 5 = .ok (.iadd, 1) := by decide +kernel
theorem d_Gov_between_6 : decode prog_1_method_24_code 6 = .ok (.ireturn, 1) := by decide +kernel
