theorem d_Nodes_init_0 : decode prog_4_method_1_code 0 = .ok (.aload_n 0, 1) := by decide +kernel
theorem d_Nodes_init_1 : decode prog_4_method_1_code 1 = .ok (.invokespecial 3, 3) := by decide +kernel
theorem d_Nodes_init_4 : decode prog_4_method_1_code 4 = .ok (.aload_n 0, 1) := by decide +kernel
theorem d_Nodes_init_5 : decode prog_4_method_1_code 5 = .ok (.bipush 7, 2) := by decide +kernel
theorem d_Nodes_init_7 : decode prog_4_method_1_code 7 = .ok (.newarray .int, 2) := by decide +kernel
theorem d_Nodes_init_9 : decode prog_4_method_1_code 9 = .ok (.putfield 9, 3) := by decide +kernel
theorem d_Nodes_init_12 : decode prog_4_method_1_code 12 = .ok (.aload_n 0, 1) := by decide +kernel
theorem d_Nodes_init_13 : decode prog_4_method_1_code 13 = .ok (.bipush 7, 2) := by decide +kernel
theorem d_Nodes_init_15 : decode prog_4_method_1_code 15 = .ok (.newarray .int, 2) := by decide +kernel
theorem d_Nodes_init_17 : decode prog_4_method_1_code 17 = .ok (.putfield 15, 3) := by decide +kernel
theorem d_Nodes_init_20 : decode prog_4_method_1_code 20 = .ok (.aload_n 0, 1) := by decide +kernel
theorem d_Nodes_init_21 : decode prog_4_method_1_code 21 = .ok (.bipush 6, 2) := by decide +kernel
theorem d_Nodes_init_23 : decode prog_4_method_1_code 23 = .ok (.newarray .int, 2) := by decide +kernel
theorem d_Nodes_init_25 : decode prog_4_method_1_code 25 = .ok (.putfield 18, 3) := by decide +kernel
theorem d_Nodes_init_28 : decode prog_4_method_1_code 28 = .ok (.aload_n 0, 1) := by decide +kernel
theorem d_Nodes_init_29 : decode prog_4_method_1_code 29 = .ok (.bipush 6, 2) := by decide +kernel
theorem d_Nodes_init_31 : decode prog_4_method_1_code 31 = .ok (.newarray .int, 2) := by decide +kernel
theorem d_Nodes_init_33 : decode prog_4_method_1_code 33 = .ok (.putfield 21, 3) := by decide +kernel
theorem d_Nodes_init_36 : decode prog_4_method_1_code 36 = .ok (.aload_n 0, 1) := by decide +kernel
theorem d_Nodes_init_37 : decode prog_4_method_1_code 37 = .ok (.bipush 6, 2) := by decide +kernel
theorem d_Nodes_init_39 : decode prog_4_method_1_code 39 = .ok (.newarray .boolean, 2) := by decide +kernel
theorem d_Nodes_init_41 : decode prog_4_method_1_code 41 = .ok (.putfield 24, 3) := by decide +kernel
theorem d_Nodes_init_44 : decode prog_4_method_1_code 44 = .ok (.return_, 1) := by decide +kernel
theorem d_Nodes_begin_0 : decode prog_4_method_2_code 0 = .ok (.aload_n 0, 1) := by decide +kernel
theorem d_Nodes_begin_1 : decode prog_4_method_2_code 1 = .ok (.getfield 9, 3) := by decide +kernel
theorem d_Nodes_begin_4 : decode prog_4_method_2_code 4 = .ok (.aload_n 1, 1) := by decide +kernel
theorem d_Nodes_begin_5 : decode prog_4_method_2_code 5 = .ok (.getfield 28, 3) := by decide +kernel
theorem d_Nodes_begin_8 : decode prog_4_method_2_code 8 = .ok (.invokestatic 34, 3) := by decide +kernel
theorem d_Nodes_begin_11 : decode prog_4_method_2_code 11 = .ok (.aload_n 0, 1) := by decide +kernel
theorem d_Nodes_begin_12 : decode prog_4_method_2_code 12 = .ok (.getfield 15, 3) := by decide +kernel
theorem d_Nodes_begin_15 : decode prog_4_method_2_code 15 = .ok (.aload_n 1, 1) := by decide +kernel
theorem d_Nodes_begin_16 : decode prog_4_method_2_code 16 = .ok (.getfield 40, 3) := by decide +kernel
theorem d_Nodes_begin_19 : decode prog_4_method_2_code 19 = .ok (.invokestatic 34, 3) := by decide +kernel
theorem d_Nodes_begin_22 : decode prog_4_method_2_code 22 = .ok (.aload_n 0, 1) := by decide +kernel
theorem d_Nodes_begin_23 : decode prog_4_method_2_code 23 = .ok (.getfield 18, 3) := by decide +kernel
theorem d_Nodes_begin_26 : decode prog_4_method_2_code 26 = .ok (.aload_n 1, 1) := by decide +kernel
theorem d_Nodes_begin_27 : decode prog_4_method_2_code 27 = .ok (.getfield 40, 3) := by decide +kernel
theorem d_Nodes_begin_30 : decode prog_4_method_2_code 30 = .ok (.invokestatic 34, 3) := by decide +kernel
theorem d_Nodes_begin_33 : decode prog_4_method_2_code 33 = .ok (.aload_n 0, 1) := by decide +kernel
theorem d_Nodes_begin_34 : decode prog_4_method_2_code 34 = .ok (.getfield 21, 3) := by decide +kernel
theorem d_Nodes_begin_37 : decode prog_4_method_2_code 37 = .ok (.iconst 0, 1) := by decide +kernel
theorem d_Nodes_begin_38 : decode prog_4_method_2_code 38 = .ok (.invokestatic 34, 3) := by decide +kernel
theorem d_Nodes_begin_41 : decode prog_4_method_2_code 41 = .ok (.iconst 0, 1) := by decide +kernel
theorem d_Nodes_begin_42 : decode prog_4_method_2_code 42 = .ok (.istore_n 2, 1) := by decide +kernel
theorem d_Nodes_begin_43 : decode prog_4_method_2_code 43 = .ok (.iload_n 2, 1) := by decide +kernel
theorem d_Nodes_begin_44 : decode prog_4_method_2_code 44 = .ok (.bipush 6, 2) := by decide +kernel
theorem d_Nodes_begin_46 : decode prog_4_method_2_code 46 = .ok (.if_icmp .ge 16, 3) := by decide +kernel
theorem d_Nodes_begin_49 : decode prog_4_method_2_code 49 = .ok (.aload_n 0, 1) := by decide +kernel
theorem d_Nodes_begin_50 : decode prog_4_method_2_code 50 = .ok (.getfield 24, 3) := by decide +kernel
theorem d_Nodes_begin_53 : decode prog_4_method_2_code 53 = .ok (.iload_n 2, 1) := by decide +kernel
theorem d_Nodes_begin_54 : decode prog_4_method_2_code 54 = .ok (.iconst 1, 1) := by decide +kernel
theorem d_Nodes_begin_55 : decode prog_4_method_2_code 55 = .ok (.bastore, 1) := by decide +kernel
theorem d_Nodes_begin_56 : decode prog_4_method_2_code 56 = .ok (.iinc 2 1, 3) := by decide +kernel
theorem d_Nodes_begin_59 : decode prog_4_method_2_code 59 = .ok (.goto (-16), 3) := by decide +kernel
theorem d_Nodes_begin_62 : decode prog_4_method_2_code 62 = .ok (.return_, 1) := by decide +kernel
theorem d_Nodes_reading_0 : decode prog_4_method_3_code 0 = .ok (.aload_n 0, 1) := by decide +kernel
theorem d_Nodes_reading_1 : decode prog_4_method_3_code 1 = .ok (.getfield 9, 3) := by decide +kernel
theorem d_Nodes_reading_4 : decode prog_4_method_3_code 4 = .ok (.iload_n 1, 1) := by decide +kernel
theorem d_Nodes_reading_5 : decode prog_4_method_3_code 5 = .ok (.iaload, 1) := by decide +kernel
theorem d_Nodes_reading_6 : decode prog_4_method_3_code 6 = .ok (.aload_n 0, 1) := by decide +kernel
theorem d_Nodes_reading_7 : decode prog_4_method_3_code 7 = .ok (.getfield 21, 3) := by decide +kernel
theorem d_Nodes_reading_10 : decode prog_4_method_3_code 10 = .ok (.iload_n 1, 1) := by decide +kernel
theorem d_Nodes_reading_11 : decode prog_4_method_3_code 11 = .ok (.iaload, 1) := by decide +kernel
theorem d_Nodes_reading_12 : decode prog_4_method_3_code 12 = .ok (.iadd, 1) := by decide +kernel
theorem d_Nodes_reading_13 : decode prog_4_method_3_code 13 = .ok (.ireturn, 1) := by decide +kernel
theorem d_Nodes_passTick_0 : decode prog_4_method_4_code 0 = .ok (.aload_n 1, 1) := by decide +kernel
theorem d_Nodes_passTick_1 : decode prog_4_method_4_code 1 = .ok (.aload_n 0, 1) := by decide +kernel
theorem d_Nodes_passTick_2 : decode prog_4_method_4_code 2 = .ok (.getfield 9, 3) := by decide +kernel
theorem d_Nodes_passTick_5 : decode prog_4_method_4_code 5 = .ok (.aload_n 2, 1) := by decide +kernel
theorem d_Nodes_passTick_6 : decode prog_4_method_4_code 6 = .ok (.invokevirtual 43, 3) := by decide +kernel
theorem d_Nodes_passTick_9 : decode prog_4_method_4_code 9 = .ok (.aload_n 1, 1) := by decide +kernel
theorem d_Nodes_passTick_10 : decode prog_4_method_4_code 10 = .ok (.aload_n 0, 1) := by decide +kernel
theorem d_Nodes_passTick_11 : decode prog_4_method_4_code 11 = .ok (.getfield 15, 3) := by decide +kernel
theorem d_Nodes_passTick_14 : decode prog_4_method_4_code 14 = .ok (.aload_n 2, 1) := by decide +kernel
theorem d_Nodes_passTick_15 : decode prog_4_method_4_code 15 = .ok (.getfield 47, 3) := by decide +kernel
theorem d_Nodes_passTick_18 : decode prog_4_method_4_code 18 = .ok (.invokevirtual 52, 3) := by decide +kernel
theorem d_Nodes_passTick_21 : decode prog_4_method_4_code 21 = .ok (.pop, 1) := by decide +kernel
theorem d_Nodes_passTick_22 : decode prog_4_method_4_code 22 = .ok (.iconst 0, 1) := by decide +kernel
theorem d_Nodes_passTick_23 : decode prog_4_method_4_code 23 = .ok (.istore_n 3, 1) := by decide +kernel
theorem d_Nodes_passTick_24 : decode prog_4_method_4_code 24 = .ok (.iload_n 3, 1) := by decide +kernel
theorem d_Nodes_passTick_25 : decode prog_4_method_4_code 25 = .ok (.bipush 6, 2) := by decide +kernel
theorem d_Nodes_passTick_27 : decode prog_4_method_4_code 27 = .ok (.if_icmp .ge 63, 3) := by decide +kernel
theorem d_Nodes_passTick_30 : decode prog_4_method_4_code 30 = .ok (.aload_n 0, 1) := by decide +kernel
theorem d_Nodes_passTick_31 : decode prog_4_method_4_code 31 = .ok (.getfield 24, 3) := by decide +kernel
theorem d_Nodes_passTick_34 : decode prog_4_method_4_code 34 = .ok (.iload_n 3, 1) := by decide +kernel
theorem d_Nodes_passTick_35 : decode prog_4_method_4_code 35 = .ok (.baload, 1) := by decide +kernel
theorem d_Nodes_passTick_36 : decode prog_4_method_4_code 36 = .ok (.ifCond .eq 27, 3) := by decide +kernel
theorem d_Nodes_passTick_39 : decode prog_4_method_4_code 39 = .ok (.aload_n 0, 1) := by decide +kernel
theorem d_Nodes_passTick_40 : decode prog_4_method_4_code 40 = .ok (.getfield 15, 3) := by decide +kernel
theorem d_Nodes_passTick_43 : decode prog_4_method_4_code 43 = .ok (.iload_n 3, 1) := by decide +kernel
theorem d_Nodes_passTick_44 : decode prog_4_method_4_code 44 = .ok (.aload_n 0, 1) := by decide +kernel
theorem d_Nodes_passTick_45 : decode prog_4_method_4_code 45 = .ok (.getfield 15, 3) := by decide +kernel
theorem d_Nodes_passTick_48 : decode prog_4_method_4_code 48 = .ok (.iload_n 3, 1) := by decide +kernel
theorem d_Nodes_passTick_49 : decode prog_4_method_4_code 49 = .ok (.iaload, 1) := by decide +kernel
theorem d_Nodes_passTick_50 : decode prog_4_method_4_code 50 = .ok (.aload_n 0, 1) := by decide +kernel
theorem d_Nodes_passTick_51 : decode prog_4_method_4_code 51 = .ok (.iload_n 3, 1) := by decide +kernel
theorem d_Nodes_passTick_52 : decode prog_4_method_4_code 52 = .ok (.invokevirtual 56, 3) := by decide +kernel
theorem d_Nodes_passTick_55 : decode prog_4_method_4_code 55 = .ok (.sipush 200, 3) := by decide +kernel
theorem d_Nodes_passTick_58 : decode prog_4_method_4_code 58 = .ok (.iadd, 1) := by decide +kernel
theorem d_Nodes_passTick_59 : decode prog_4_method_4_code 59 = .ok (.invokestatic 60, 3) := by decide +kernel
theorem d_Nodes_passTick_62 : decode prog_4_method_4_code 62 = .ok (.iastore, 1) := by decide +kernel
theorem d_Nodes_passTick_63 : decode prog_4_method_4_code 63 = .ok (.aload_n 0, 1) := by decide +kernel
theorem d_Nodes_passTick_64 : decode prog_4_method_4_code 64 = .ok (.getfield 18, 3) := by decide +kernel
theorem d_Nodes_passTick_67 : decode prog_4_method_4_code 67 = .ok (.iload_n 3, 1) := by decide +kernel
theorem d_Nodes_passTick_68 : decode prog_4_method_4_code 68 = .ok (.aload_n 0, 1) := by decide +kernel
theorem d_Nodes_passTick_69 : decode prog_4_method_4_code 69 = .ok (.getfield 18, 3) := by decide +kernel
theorem d_Nodes_passTick_72 : decode prog_4_method_4_code 72 = .ok (.iload_n 3, 1) := by decide +kernel
theorem d_Nodes_passTick_73 : decode prog_4_method_4_code 73 = .ok (.iaload, 1) := by decide +kernel
theorem d_Nodes_passTick_74 : decode prog_4_method_4_code 74 = .ok (.aload_n 0, 1) := by decide +kernel
theorem d_Nodes_passTick_75 : decode prog_4_method_4_code 75 = .ok (.getfield 15, 3) := by decide +kernel
theorem d_Nodes_passTick_78 : decode prog_4_method_4_code 78 = .ok (.iload_n 3, 1) := by decide +kernel
theorem d_Nodes_passTick_79 : decode prog_4_method_4_code 79 = .ok (.iaload, 1) := by decide +kernel
theorem d_Nodes_passTick_80 : decode prog_4_method_4_code 80 = .ok (.invokestatic 66, 3) := by decide +kernel
theorem d_Nodes_passTick_83 : decode prog_4_method_4_code 83 = .ok (.iastore, 1) := by decide +kernel
theorem d_Nodes_passTick_84 : decode prog_4_method_4_code 84 = .ok (.iinc 3 1, 3) := by decide +kernel
theorem d_Nodes_passTick_87 : decode prog_4_method_4_code 87 = .ok (.goto (-63), 3) := by decide +kernel
theorem d_Nodes_passTick_90 : decode prog_4_method_4_code 90 = .ok (.return_, 1) := by decide +kernel
