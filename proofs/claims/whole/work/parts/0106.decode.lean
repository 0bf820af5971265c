theorem d_Chip_init_0 : decode prog_2_method_1_code 0 = .ok (.aload_n 0, 1) := by decide +kernel
theorem d_Chip_init_1 : decode prog_2_method_1_code 1 = .ok (.invokespecial 3, 3) := by decide +kernel
theorem d_Chip_init_4 : decode prog_2_method_1_code 4 = .ok (.aload_n 0, 1) := by decide +kernel
theorem d_Chip_init_5 : decode prog_2_method_1_code 5 = .ok (.bipush 6, 2) := by decide +kernel
theorem d_Chip_init_7 : decode prog_2_method_1_code 7 = .ok (.newarray .int, 2) := by decide +kernel
theorem d_Chip_init_9 : decode prog_2_method_1_code 9 = .ok (.putfield 9, 3) := by decide +kernel
theorem d_Chip_init_12 : decode prog_2_method_1_code 12 = .ok (.aload_n 0, 1) := by decide +kernel
theorem d_Chip_init_13 : decode prog_2_method_1_code 13 = .ok (.bipush 6, 2) := by decide +kernel
theorem d_Chip_init_15 : decode prog_2_method_1_code 15 = .ok (.newarray .int, 2) := by decide +kernel
theorem d_Chip_init_17 : decode prog_2_method_1_code 17 = .ok (.putfield 15, 3) := by decide +kernel
theorem d_Chip_init_20 : decode prog_2_method_1_code 20 = .ok (.aload_n 0, 1) := by decide +kernel
theorem d_Chip_init_21 : decode prog_2_method_1_code 21 = .ok (.bipush 6, 2) := by decide +kernel
theorem d_Chip_init_23 : decode prog_2_method_1_code 23 = .ok (.newarray .int, 2) := by decide +kernel
theorem d_Chip_init_25 : decode prog_2_method_1_code 25 = .ok (.putfield 18, 3) := by decide +kernel
theorem d_Chip_init_28 : decode prog_2_method_1_code 28 = .ok (.aload_n 0, 1) := by decide +kernel
theorem d_Chip_init_29 : decode prog_2_method_1_code 29 = .ok (.bipush 49, 2) := by decide +kernel
theorem d_Chip_init_31 : decode prog_2_method_1_code 31 = .ok (.newarray .int, 2) := by decide +kernel
theorem d_Chip_init_33 : decode prog_2_method_1_code 33 = .ok (.putfield 21, 3) := by decide +kernel
theorem d_Chip_init_36 : decode prog_2_method_1_code 36 = .ok (.aload_n 0, 1) := by decide +kernel
theorem d_Chip_init_37 : decode prog_2_method_1_code 37 = .ok (.bipush 49, 2) := by decide +kernel
theorem d_Chip_init_39 : decode prog_2_method_1_code 39 = .ok (.newarray .int, 2) := by decide +kernel
theorem d_Chip_init_41 : decode prog_2_method_1_code 41 = .ok (.putfield 24, 3) := by decide +kernel
theorem d_Chip_init_44 : decode prog_2_method_1_code 44 = .ok (.aload_n 0, 1) := by decide +kernel
theorem d_Chip_init_45 : decode prog_2_method_1_code 45 = .ok (.bipush 49, 2) := by decide +kernel
theorem d_Chip_init_47 : decode prog_2_method_1_code 47 = .ok (.newarray .int, 2) := by decide +kernel
theorem d_Chip_init_49 : decode prog_2_method_1_code 49 = .ok (.putfield 27, 3) := by decide +kernel
theorem d_Chip_init_52 : decode prog_2_method_1_code 52 = .ok (.aload_n 0, 1) := by decide +kernel
theorem d_Chip_init_53 : decode prog_2_method_1_code 53 = .ok (.bipush 6, 2) := by decide +kernel
theorem d_Chip_init_55 : decode prog_2_method_1_code 55 = .ok (.newarray .int, 2) := by decide +kernel
theorem d_Chip_init_57 : decode prog_2_method_1_code 57 = .ok (.putfield 30, 3) := by decide +kernel
theorem d_Chip_init_60 : decode prog_2_method_1_code 60 = .ok (.aload_n 0, 1) := by decide +kernel
theorem d_Chip_init_61 : decode prog_2_method_1_code 61 = .ok (.iconst 4, 1) := by decide +kernel
theorem d_Chip_init_62 : decode prog_2_method_1_code 62 = .ok (.newarray .int, 2) := by decide +kernel
theorem d_Chip_init_64 : decode prog_2_method_1_code 64 = .ok (.putfield 33, 3) := by decide +kernel
theorem d_Chip_init_67 : decode prog_2_method_1_code 67 = .ok (.aload_n 0, 1) := by decide +kernel
theorem d_Chip_init_68 : decode prog_2_method_1_code 68 = .ok (.bipush 6, 2) := by decide +kernel
theorem d_Chip_init_70 : decode prog_2_method_1_code 70 = .ok (.newarray .int, 2) := by decide +kernel
theorem d_Chip_init_72 : decode prog_2_method_1_code 72 = .ok (.putfield 36, 3) := by decide +kernel
theorem d_Chip_init_75 : decode prog_2_method_1_code 75 = .ok (.aload_n 0, 1) := by decide +kernel
theorem d_Chip_init_76 : decode prog_2_method_1_code 76 = .ok (.invokevirtual 39, 3) := by decide +kernel
theorem d_Chip_init_79 : decode prog_2_method_1_code 79 = .ok (.return_, 1) := by decide +kernel
theorem d_Chip_reset_0 : decode prog_2_method_2_code 0 = .ok (.aload_n 0, 1) := by decide +kernel
theorem d_Chip_reset_1 : decode prog_2_method_2_code 1 = .ok (.getfield 9, 3) := by decide +kernel
theorem d_Chip_reset_4 : decode prog_2_method_2_code 4 = .ok (.sipush 1000, 3) := by decide +kernel
theorem d_Chip_reset_7 : decode prog_2_method_2_code 7 = .ok (.invokestatic 42, 3) := by decide +kernel
theorem d_Chip_reset_10 : decode prog_2_method_2_code 10 = .ok (.aload_n 0, 1) := by decide +kernel
theorem d_Chip_reset_11 : decode prog_2_method_2_code 11 = .ok (.getfield 15, 3) := by decide +kernel
theorem d_Chip_reset_14 : decode prog_2_method_2_code 14 = .ok (.sipush 1000, 3) := by decide +kernel
theorem d_Chip_reset_17 : decode prog_2_method_2_code 17 = .ok (.invokestatic 42, 3) := by decide +kernel
theorem d_Chip_reset_20 : decode prog_2_method_2_code 20 = .ok (.aload_n 0, 1) := by decide +kernel
theorem d_Chip_reset_21 : decode prog_2_method_2_code 21 = .ok (.getfield 18, 3) := by decide +kernel
theorem d_Chip_reset_24 : decode prog_2_method_2_code 24 = .ok (.sipush 1000, 3) := by decide +kernel
theorem d_Chip_reset_27 : decode prog_2_method_2_code 27 = .ok (.invokestatic 42, 3) := by decide +kernel
theorem d_Chip_reset_30 : decode prog_2_method_2_code 30 = .ok (.aload_n 0, 1) := by decide +kernel
theorem d_Chip_reset_31 : decode prog_2_method_2_code 31 = .ok (.getfield 21, 3) := by decide +kernel
theorem d_Chip_reset_34 : decode prog_2_method_2_code 34 = .ok (.iconst 0, 1) := by decide +kernel
theorem d_Chip_reset_35 : decode prog_2_method_2_code 35 = .ok (.invokestatic 42, 3) := by decide +kernel
theorem d_Chip_reset_38 : decode prog_2_method_2_code 38 = .ok (.aload_n 0, 1) := by decide +kernel
theorem d_Chip_reset_39 : decode prog_2_method_2_code 39 = .ok (.getfield 24, 3) := by decide +kernel
theorem d_Chip_reset_42 : decode prog_2_method_2_code 42 = .ok (.iconst 0, 1) := by decide +kernel
theorem d_Chip_reset_43 : decode prog_2_method_2_code 43 = .ok (.invokestatic 42, 3) := by decide +kernel
theorem d_Chip_reset_46 : decode prog_2_method_2_code 46 = .ok (.aload_n 0, 1) := by decide +kernel
theorem d_Chip_reset_47 : decode prog_2_method_2_code 47 = .ok (.getfield 27, 3) := by decide +kernel
theorem d_Chip_reset_50 : decode prog_2_method_2_code 50 = .ok (.iconst 0, 1) := by decide +kernel
theorem d_Chip_reset_51 : decode prog_2_method_2_code 51 = .ok (.invokestatic 42, 3) := by decide +kernel
theorem d_Chip_reset_54 : decode prog_2_method_2_code 54 = .ok (.aload_n 0, 1) := by decide +kernel
theorem d_Chip_reset_55 : decode prog_2_method_2_code 55 = .ok (.getfield 30, 3) := by decide +kernel
theorem d_Chip_reset_58 : decode prog_2_method_2_code 58 = .ok (.sipush 20000, 3) := by decide +kernel
theorem d_Chip_reset_61 : decode prog_2_method_2_code 61 = .ok (.invokestatic 42, 3) := by decide +kernel
theorem d_Chip_reset_64 : decode prog_2_method_2_code 64 = .ok (.aload_n 0, 1) := by decide +kernel
theorem d_Chip_reset_65 : decode prog_2_method_2_code 65 = .ok (.getfield 33, 3) := by decide +kernel
theorem d_Chip_reset_68 : decode prog_2_method_2_code 68 = .ok (.iconst 0, 1) := by decide +kernel
theorem d_Chip_reset_69 : decode prog_2_method_2_code 69 = .ok (.invokestatic 42, 3) := by decide +kernel
theorem d_Chip_reset_72 : decode prog_2_method_2_code 72 = .ok (.aload_n 0, 1) := by decide +kernel
theorem d_Chip_reset_73 : decode prog_2_method_2_code 73 = .ok (.sipush 5000, 3) := by decide +kernel
theorem d_Chip_reset_76 : decode prog_2_method_2_code 76 = .ok (.putfield 48, 3) := by decide +kernel
theorem d_Chip_reset_79 : decode prog_2_method_2_code 79 = .ok (.aload_n 0, 1) := by decide +kernel
theorem d_Chip_reset_80 : decode prog_2_method_2_code 80 = .ok (.sipush 5000, 3) := by decide +kernel
theorem d_Chip_reset_83 : decode prog_2_method_2_code 83 = .ok (.putfield 52, 3) := by decide +kernel
theorem d_Chip_reset_86 : decode prog_2_method_2_code 86 = .ok (.aload_n 0, 1) := by decide +kernel
theorem d_Chip_reset_87 : decode prog_2_method_2_code 87 = .ok (.iconst 0, 1) := by decide +kernel
theorem d_Chip_reset_88 : decode prog_2_method_2_code 88 = .ok (.iconst 0, 1) := by decide +kernel
theorem d_Chip_reset_89 : decode prog_2_method_2_code 89 = .ok (.iconst 0, 1) := by decide +kernel
theorem d_Chip_reset_90 : decode prog_2_method_2_code 90 = .ok (.iconst 0, 1) := by decide +kernel
theorem d_Chip_reset_91 : decode prog_2_method_2_code 91 = .ok (.invokevirtual 55, 3) := by decide +kernel
theorem d_Chip_reset_94 : decode prog_2_method_2_code 94 = .ok (.return_, 1) := by decide +kernel
theorem d_Chip_setCapacity_0 : decode prog_2_method_3_code 0 = .ok (.aload_n 0, 1) := by decide +kernel
theorem d_Chip_setCapacity_1 : decode prog_2_method_3_code 1 = .ok (.getfield 9, 3) := by decide +kernel
theorem d_Chip_setCapacity_4 : decode prog_2_method_3_code 4 = .ok (.iload_n 1, 1) := by decide +kernel
theorem d_Chip_setCapacity_5 : decode prog_2_method_3_code 5 = .ok (.iload_n 2, 1) := by decide +kernel
theorem d_Chip_setCapacity_6 : decode prog_2_method_3_code 6 = .ok (.iastore, 1) := by decide +kernel
theorem d_Chip_setCapacity_7 : decode prog_2_method_3_code 7 = .ok (.aload_n 0, 1) := by decide +kernel
theorem d_Chip_setCapacity_8 : decode prog_2_method_3_code 8 = .ok (.getfield 15, 3) := by decide +kernel
theorem d_Chip_setCapacity_11 : decode prog_2_method_3_code 11 = .ok (.iload_n 1, 1) := by decide +kernel
theorem d_Chip_setCapacity_12 : decode prog_2_method_3_code 12 = .ok (.iload_n 3, 1) := by decide +kernel
theorem d_Chip_setCapacity_13 : decode prog_2_method_3_code 13 = .ok (.iastore, 1) := by decide +kernel
theorem d_Chip_setCapacity_14 : decode prog_2_method_3_code 14 = .ok (.aload_n 0, 1) := by decide +kernel
theorem d_Chip_setCapacity_15 : decode prog_2_method_3_code 15 = .ok (.getfield 18, 3) := by decide +kernel
theorem d_Chip_setCapacity_18 : decode prog_2_method_3_code 18 = .ok (.iload_n 1, 1) := by decide +kernel
theorem d_Chip_setCapacity_19 : decode prog_2_method_3_code 19 = .ok (.iload_n 2, 1) := by decide +kernel
theorem d_Chip_setCapacity_20 : decode prog_2_method_3_code 20 = .ok (.iastore, 1) := by decide +kernel
theorem d_Chip_setCapacity_21 : decode prog_2_method_3_code 21 = .ok (.return_, 1) := by decide +kernel
theorem d_Chip_setEdge_0 : decode prog_2_method_4_code 0 = .ok (.aload_n 0, 1) := by decide +kernel
theorem d_Chip_setEdge_1 : decode prog_2_method_4_code 1 = .ok (.getfield 21, 3) := by decide +kernel
theorem d_Chip_setEdge_4 : decode prog_2_method_4_code 4 = .ok (.iload_n 1, 1) := by decide +kernel
theorem d_Chip_setEdge_5 : decode prog_2_method_4_code 5 = .ok (.iload_n 2, 1) := by decide +kernel
theorem d_Chip_setEdge_6 : decode prog_2_method_4_code 6 = .ok (.invokestatic 59, 3) := by decide +kernel
theorem d_Chip_setEdge_9 : decode prog_2_method_4_code 9 = .ok (.iload_n 3, 1) := by decide +kernel
theorem d_Chip_setEdge_10 : decode prog_2_method_4_code 10 = .ok (.iastore, 1) := by decide +kernel
theorem d_Chip_setEdge_11 : decode prog_2_method_4_code 11 = .ok (.aload_n 0, 1) := by decide +kernel
theorem d_Chip_setEdge_12 : decode prog_2_method_4_code 12 = .ok (.getfield 21, 3) := by decide +kernel
theorem d_Chip_setEdge_15 : decode prog_2_method_4_code 15 = .ok (.iload_n 2, 1) := by decide +kernel
theorem d_Chip_setEdge_16 : decode prog_2_method_4_code 16 = .ok (.iload_n 1, 1) := by decide +kernel
theorem d_Chip_setEdge_17 : decode prog_2_method_4_code 17 = .ok (.invokestatic 59, 3) := by decide +kernel
theorem d_Chip_setEdge_20 : decode prog_2_method_4_code 20 = .ok (.iload_n 3, 1) := by decide +kernel
theorem d_Chip_setEdge_21 : decode prog_2_method_4_code 21 = .ok (.iastore, 1) := by decide +kernel
theorem d_Chip_setEdge_22 : decode prog_2_method_4_code 22 = .ok (.aload_n 0, 1) := by decide +kernel
theorem d_Chip_setEdge_23 : decode prog_2_method_4_code 23 = .ok (.getfield 24, 3) := by decide +kernel
theorem d_Chip_setEdge_26 : decode prog_2_method_4_code 26 = .ok (.iload_n 1, 1) := by decide +kernel
theorem d_Chip_setEdge_27 : decode prog_2_method_4_code 27 = .ok (.iload_n 2, 1) := by decide +kernel
theorem d_Chip_setEdge_28 : decode prog_2_method_4_code 28 = .ok (.invokestatic 59, 3) := by decide +kernel
theorem d_Chip_setEdge_31 : decode prog_2_method_4_code 31 = .ok (.iload 4, 2) := by decide +kernel
theorem d_Chip_setEdge_33 : decode prog_2_method_4_code 33 = .ok (.iastore, 1) := by decide +kernel
theorem d_Chip_setEdge_34 : decode prog_2_method_4_code 34 = .ok (.aload_n 0, 1) := by decide +kernel
theorem d_Chip_setEdge_35 : decode prog_2_method_4_code 35 = .ok (.getfield 24, 3) := by decide +kernel
theorem d_Chip_setEdge_38 : decode prog_2_method_4_code 38 = .ok (.iload_n 2, 1) := by decide +kernel
theorem d_Chip_setEdge_39 : decode prog_2_method_4_code 39 = .ok (.iload_n 1, 1) := by decide +kernel
theorem d_Chip_setEdge_40 : decode prog_2_method_4_code 40 = .ok (.invokestatic 59, 3) := by decide +kernel
theorem d_Chip_setEdge_43 : decode prog_2_method_4_code 43 = .ok (.iload 4, 2) := by decide +kernel
theorem d_Chip_setEdge_45 : decode prog_2_method_4_code 45 = .ok (.iastore, 1) := by decide +kernel
theorem d_Chip_setEdge_46 : decode prog_2_method_4_code 46 = .ok (.aload_n 0, 1) := by decide +kernel
theorem d_Chip_setEdge_47 : decode prog_2_method_4_code 47 = .ok (.iload_n 1, 1) := by decide +kernel
theorem d_Chip_setEdge_48 : decode prog_2_method_4_code 48 = .ok (.iload_n 2, 1) := by decide +kernel
theorem d_Chip_setEdge_49 : decode prog_2_method_4_code 49 = .ok (.iload_n 3, 1) := by decide +kernel
theorem d_Chip_setEdge_50 : decode prog_2_method_4_code 50 = .ok (.invokevirtual 63, 3) := by decide +kernel
theorem d_Chip_setEdge_53 : decode prog_2_method_4_code 53 = .ok (.return_, 1) := by decide +kernel
theorem d_Chip_setTrueEdge_0 : decode prog_2_method_5_code 0 = .ok (.aload_n 0, 1) := by decide +kernel
theorem d_Chip_setTrueEdge_1 : decode prog_2_method_5_code 1 = .ok (.getfield 27, 3) := by decide +kernel
theorem d_Chip_setTrueEdge_4 : decode prog_2_method_5_code 4 = .ok (.iload_n 1, 1) := by decide +kernel
theorem d_Chip_setTrueEdge_5 : decode prog_2_method_5_code 5 = .ok (.iload_n 2, 1) := by decide +kernel
theorem d_Chip_setTrueEdge_6 : decode prog_2_method_5_code 6 = .ok (.invokestatic 59, 3) := by decide +kernel
theorem d_Chip_setTrueEdge_9 : decode prog_2_method_5_code 9 = .ok (.iload_n 3, 1) := by decide +kernel
theorem d_Chip_setTrueEdge_10 : decode prog_2_method_5_code 10 = .ok (.iastore, 1) := by decide +kernel
theorem d_Chip_setTrueEdge_11 : decode prog_2_method_5_code 11 = .ok (.aload_n 0, 1) := by decide +kernel
theorem d_Chip_setTrueEdge_12 : decode prog_2_method_5_code 12 = .ok (.getfield 27, 3) := by decide +kernel
theorem d_Chip_setTrueEdge_15 : decode prog_2_method_5_code 15 = .ok (.iload_n 2, 1) := by decide +kernel
theorem d_Chip_setTrueEdge_16 : decode prog_2_method_5_code 16 = .ok (.iload_n 1, 1) := by decide +kernel
theorem d_Chip_setTrueEdge_17 : decode prog_2_method_5_code 17 = .ok (.invokestatic 59, 3) := by decide +kernel
theorem d_Chip_setTrueEdge_20 : decode prog_2_method_5_code 20 = .ok (.iload_n 3, 1) := by decide +kernel
theorem d_Chip_setTrueEdge_21 : decode prog_2_method_5_code 21 = .ok (.iastore, 1) := by decide +kernel
theorem d_Chip_setTrueEdge_22 : decode prog_2_method_5_code 22 = .ok (.return_, 1) := by decide +kernel
theorem d_Chip_setLeak_0 : decode prog_2_method_6_code 0 = .ok (.aload_n 0, 1) := by decide +kernel
theorem d_Chip_setLeak_1 : decode prog_2_method_6_code 1 = .ok (.iload_n 1, 1) := by decide +kernel
theorem d_Chip_setLeak_2 : decode prog_2_method_6_code 2 = .ok (.putfield 67, 3) := by decide +kernel
theorem d_Chip_setLeak_5 : decode prog_2_method_6_code 5 = .ok (.aload_n 0, 1) := by decide +kernel
theorem d_Chip_setLeak_6 : decode prog_2_method_6_code 6 = .ok (.iload_n 2, 1) := by decide +kernel
theorem d_Chip_setLeak_7 : decode prog_2_method_6_code 7 = .ok (.putfield 70, 3) := by decide +kernel
theorem d_Chip_setLeak_10 : decode prog_2_method_6_code 10 = .ok (.aload_n 0, 1) := by decide +kernel
theorem d_Chip_setLeak_11 : decode prog_2_method_6_code 11 = .ok (.iload_n 3, 1) := by decide +kernel
theorem d_Chip_setLeak_12 : decode prog_2_method_6_code 12 = .ok (.putfield 73, 3) := by decide +kernel
theorem d_Chip_setLeak_15 : decode prog_2_method_6_code 15 = .ok (.aload_n 0, 1) := by decide +kernel
theorem d_Chip_setLeak_16 : decode prog_2_method_6_code 16 = .ok (.iload 4, 2) := by decide +kernel
theorem d_Chip_setLeak_18 : decode prog_2_method_6_code 18 = .ok (.putfield 76, 3) := by decide +kernel
theorem d_Chip_setLeak_21 : decode prog_2_method_6_code 21 = .ok (.return_, 1) := by decide +kernel
theorem d_Chip_isJoined_0 : decode prog_2_method_7_code 0 = .ok (.bipush 64, 2) := by decide +kernel
theorem d_Chip_isJoined_2 : decode prog_2_method_7_code 2 = .ok (.istore_n 1, 1) := by decide +kernel
theorem d_Chip_isJoined_3 : decode prog_2_method_7_code 3 = .ok (.iconst 0, 1) := by decide +kernel
theorem d_Chip_isJoined_4 : decode prog_2_method_7_code 4 = .ok (.istore_n 2, 1) := by decide +kernel
theorem d_Chip_isJoined_5 : decode prog_2_method_7_code 5 = .ok (.iload_n 2, 1) := by decide +kernel
theorem d_Chip_isJoined_6 : decode prog_2_method_7_code 6 = .ok (.bipush 6, 2) := by decide +kernel
theorem d_Chip_isJoined_8 : decode prog_2_method_7_code 8 = .ok (.if_icmp .ge 15, 3) := by decide +kernel
theorem d_Chip_isJoined_11 : decode prog_2_method_7_code 11 = .ok (.aload_n 0, 1) := by decide +kernel
theorem d_Chip_isJoined_12 : decode prog_2_method_7_code 12 = .ok (.iload_n 1, 1) := by decide +kernel
theorem d_Chip_isJoined_13 : decode prog_2_method_7_code 13 = .ok (.invokevirtual 79, 3) := by decide +kernel
theorem d_Chip_isJoined_16 : decode prog_2_method_7_code 16 = .ok (.istore_n 1, 1) := by decide +kernel
theorem d_Chip_isJoined_17 : decode prog_2_method_7_code 17 = .ok (.iinc 2 1, 3) := by decide +kernel
theorem d_Chip_isJoined_20 : decode prog_2_method_7_code 20 = .ok (.goto (-15), 3) := by decide +kernel
theorem d_Chip_isJoined_23 : decode prog_2_method_7_code 23 = .ok (.iload_n 1, 1) := by decide +kernel
theorem d_Chip_isJoined_24 : decode prog_2_method_7_code 24 = .ok (.bipush 127, 2) := by decide +kernel
theorem d_Chip_isJoined_26 : decode prog_2_method_7_code 26 = .ok (.if_icmp .ne 7, 3) := by decide +kernel
theorem d_Chip_isJoined_29 : decode prog_2_method_7_code 29 = .ok (.iconst 1, 1) := by decide +kernel
theorem d_Chip_isJoined_30 : decode prog_2_method_7_code 30 = .ok (.goto 4, 3) := by decide +kernel
theorem d_Chip_isJoined_33 : decode prog_2_method_7_code 33 = .ok (.iconst 0, 1) := by decide +kernel
theorem d_Chip_isJoined_34 : decode prog_2_method_7_code 34 = .ok (.ireturn, 1) := by decide +kernel
theorem d_Chip_withNeighbours_0 : decode prog_2_method_8_code 0 = .ok (.iload_n 1, 1) := by decide +kernel
theorem d_Chip_withNeighbours_1 : decode prog_2_method_8_code 1 = .ok (.istore_n 2, 1) := by decide +kernel
theorem d_Chip_withNeighbours_2 : decode prog_2_method_8_code 2 = .ok (.iconst 0, 1) := by decide +kernel
theorem d_Chip_withNeighbours_3 : decode prog_2_method_8_code 3 = .ok (.istore_n 3, 1) := by decide +kernel
theorem d_Chip_withNeighbours_4 : decode prog_2_method_8_code 4 = .ok (.iload_n 3, 1) := by decide +kernel
theorem d_Chip_withNeighbours_5 : decode prog_2_method_8_code 5 = .ok (.bipush 7, 2) := by decide +kernel
theorem d_Chip_withNeighbours_7 : decode prog_2_method_8_code 7 = .ok (.if_icmp .ge 54, 3) := by decide +kernel
theorem d_Chip_withNeighbours_10 : decode prog_2_method_8_code 10 = .ok (.iconst 0, 1) := by decide +kernel
theorem d_Chip_withNeighbours_11 : decode prog_2_method_8_code 11 = .ok (.istore 4, 2) := by decide +kernel
theorem d_Chip_withNeighbours_13 : decode prog_2_method_8_code 13 = .ok (.iload 4, 2) := by decide +kernel
theorem d_Chip_withNeighbours_15 : decode prog_2_method_8_code 15 = .ok (.bipush 7, 2) := by decide +kernel
theorem d_Chip_withNeighbours_17 : decode prog_2_method_8_code 17 = .ok (.if_icmp .ge 38, 3) := by decide +kernel
theorem d_Chip_withNeighbours_20 : decode prog_2_method_8_code 20 = .ok (.iload_n 1, 1) := by decide +kernel
theorem d_Chip_withNeighbours_21 : decode prog_2_method_8_code 21 = .ok (.iconst 1, 1) := by decide +kernel
theorem d_Chip_withNeighbours_22 : decode prog_2_method_8_code 22 = .ok (.iload_n 3, 1) := by decide +kernel
theorem d_Chip_withNeighbours_23 : decode prog_2_method_8_code 23 = .ok (.ishl, 1) := by decide +kernel
theorem d_Chip_withNeighbours_24 : decode prog_2_method_8_code 24 = .ok (.iand, 1) := by decide +kernel
theorem d_Chip_withNeighbours_25 : decode prog_2_method_8_code 25 = .ok (.ifCond .eq 24, 3) := by decide +kernel
theorem d_Chip_withNeighbours_28 : decode prog_2_method_8_code 28 = .ok (.aload_n 0, 1) := by decide +kernel
theorem d_Chip_withNeighbours_29 : decode prog_2_method_8_code 29 = .ok (.getfield 24, 3) := by decide +kernel
theorem d_Chip_withNeighbours_32 : decode prog_2_method_8_code 32 = .ok (.iload_n 3, 1) := by decide +kernel
theorem d_Chip_withNeighbours_33 : decode prog_2_method_8_code 33 = .ok (.iload 4, 2) := by decide +kernel
theorem d_Chip_withNeighbours_35 : decode prog_2_method_8_code 35 = .ok (.invokestatic 59, 3) := by decide +kernel
theorem d_Chip_withNeighbours_38 : decode prog_2_method_8_code 38 = .ok (.iaload, 1) := by decide +kernel
theorem d_Chip_withNeighbours_39 : decode prog_2_method_8_code 39 = .ok (.ifCond .le 10, 3) := by decide +kernel
theorem d_Chip_withNeighbours_42 : decode prog_2_method_8_code 42 = .ok (.iload_n 2, 1) := by decide +kernel
theorem d_Chip_withNeighbours_43 : decode prog_2_method_8_code 43 = .ok (.iconst 1, 1) := by decide +kernel
theorem d_Chip_withNeighbours_44 : decode prog_2_method_8_code 44 = .ok (.iload 4, 2) := by decide +kernel
theorem d_Chip_withNeighbours_46 : decode prog_2_method_8_code 46 = .ok (.ishl, 1) := by decide +kernel
theorem d_Chip_withNeighbours_47 : decode prog_2_method_8_code 47 = .ok (.ior, 1) := by decide +kernel
theorem d_Chip_withNeighbours_48 : decode prog_2_method_8_code 48 = .ok (.istore_n 2, 1) := by decide +kernel
theorem d_Chip_withNeighbours_49 : decode prog_2_method_8_code 49 = .ok (.iinc 4 1, 3) := by decide +kernel
theorem d_Chip_withNeighbours_52 : decode prog_2_method_8_code 52 = .ok (.goto (-39), 3) := by decide +kernel
theorem d_Chip_withNeighbours_55 : decode prog_2_method_8_code 55 = .ok (.iinc 3 1, 3) := by decide +kernel
theorem d_Chip_withNeighbours_58 : decode prog_2_method_8_code 58 = .ok (.goto (-54), 3) := by decide +kernel
theorem d_Chip_withNeighbours_61 : decode prog_2_method_8_code 61 = .ok (.iload_n 2, 1) := by decide +kernel
theorem d_Chip_withNeighbours_62 : decode prog_2_method_8_code 62 = .ok (.ireturn, 1) := by decide +kernel
theorem d_Chip_isSteady_0 : decode prog_2_method_9_code 0 = .ok (.iconst 0, 1) := by decide +kernel
theorem d_Chip_isSteady_1 : decode prog_2_method_9_code 1 = .ok (.istore_n 1, 1) := by decide +kernel
theorem d_Chip_isSteady_2 : decode prog_2_method_9_code 2 = .ok (.iload_n 1, 1) := by decide +kernel
theorem d_Chip_isSteady_3 : decode prog_2_method_9_code 3 = .ok (.bipush 6, 2) := by decide +kernel
theorem d_Chip_isSteady_5 : decode prog_2_method_9_code 5 = .ok (.if_icmp .ge 69, 3) := by decide +kernel
theorem d_Chip_isSteady_8 : decode prog_2_method_9_code 8 = .ok (.iload_n 1, 1) := by decide +kernel
theorem d_Chip_isSteady_9 : decode prog_2_method_9_code 9 = .ok (.iconst 4, 1) := by decide +kernel
theorem d_Chip_isSteady_10 : decode prog_2_method_9_code 10 = .ok (.if_icmp .ge 15, 3) := by decide +kernel
theorem d_Chip_isSteady_13 : decode prog_2_method_9_code 13 = .ok (.aload_n 0, 1) := by decide +kernel
theorem d_Chip_isSteady_14 : decode prog_2_method_9_code 14 = .ok (.getfield 70, 3) := by decide +kernel
theorem d_Chip_isSteady_17 : decode prog_2_method_9_code 17 = .ok (.aload_n 0, 1) := by decide +kernel
theorem d_Chip_isSteady_18 : decode prog_2_method_9_code 18 = .ok (.getfield 73, 3) := by decide +kernel
theorem d_Chip_isSteady_21 : decode prog_2_method_9_code 21 = .ok (.iadd, 1) := by decide +kernel
theorem d_Chip_isSteady_22 : decode prog_2_method_9_code 22 = .ok (.goto 4, 3) := by decide +kernel
theorem d_Chip_isSteady_25 : decode prog_2_method_9_code 25 = .ok (.iconst 0, 1) := by decide +kernel
theorem d_Chip_isSteady_26 : decode prog_2_method_9_code 26 = .ok (.istore_n 2, 1) := by decide +kernel
theorem d_Chip_isSteady_27 : decode prog_2_method_9_code 27 = .ok (.iconst 0, 1) := by decide +kernel
theorem d_Chip_isSteady_28 : decode prog_2_method_9_code 28 = .ok (.istore_n 3, 1) := by decide +kernel
theorem d_Chip_isSteady_29 : decode prog_2_method_9_code 29 = .ok (.iload_n 3, 1) := by decide +kernel
theorem d_Chip_isSteady_30 : decode prog_2_method_9_code 30 = .ok (.bipush 7, 2) := by decide +kernel
theorem d_Chip_isSteady_32 : decode prog_2_method_9_code 32 = .ok (.if_icmp .ge 22, 3) := by decide +kernel
theorem d_Chip_isSteady_35 : decode prog_2_method_9_code 35 = .ok (.iload_n 2, 1) := by decide +kernel
theorem d_Chip_isSteady_36 : decode prog_2_method_9_code 36 = .ok (.aload_n 0, 1) := by decide +kernel
theorem d_Chip_isSteady_37 : decode prog_2_method_9_code 37 = .ok (.getfield 24, 3) := by decide +kernel
theorem d_Chip_isSteady_40 : decode prog_2_method_9_code 40 = .ok (.iload_n 1, 1) := by decide +kernel
theorem d_Chip_isSteady_41 : decode prog_2_method_9_code 41 = .ok (.iload_n 3, 1) := by decide +kernel
theorem d_Chip_isSteady_42 : decode prog_2_method_9_code 42 = .ok (.invokestatic 59, 3) := by decide +kernel
theorem d_Chip_isSteady_45 : decode prog_2_method_9_code 45 = .ok (.iaload, 1) := by decide +kernel
theorem d_Chip_isSteady_46 : decode prog_2_method_9_code 46 = .ok (.iadd, 1) := by decide +kernel
theorem d_Chip_isSteady_47 : decode prog_2_method_9_code 47 = .ok (.istore_n 2, 1) := by decide +kernel
theorem d_Chip_isSteady_48 : decode prog_2_method_9_code 48 = .ok (.iinc 3 1, 3) := by decide +kernel
theorem d_Chip_isSteady_51 : decode prog_2_method_9_code 51 = .ok (.goto (-22), 3) := by decide +kernel
theorem d_Chip_isSteady_54 : decode prog_2_method_9_code 54 = .ok (.iconst 2, 1) := by decide +kernel
theorem d_Chip_isSteady_55 : decode prog_2_method_9_code 55 = .ok (.iload_n 2, 1) := by decide +kernel
theorem d_Chip_isSteady_56 : decode prog_2_method_9_code 56 = .ok (.imul, 1) := by decide +kernel
theorem d_Chip_isSteady_57 : decode prog_2_method_9_code 57 = .ok (.aload_n 0, 1) := by decide +kernel
theorem d_Chip_isSteady_58 : decode prog_2_method_9_code 58 = .ok (.getfield 9, 3) := by decide +kernel
theorem d_Chip_isSteady_61 : decode prog_2_method_9_code 61 = .ok (.iload_n 1, 1) := by decide +kernel
theorem d_Chip_isSteady_62 : decode prog_2_method_9_code 62 = .ok (.iaload, 1) := by decide +kernel
theorem d_Chip_isSteady_63 : decode prog_2_method_9_code 63 = .ok (.if_icmp .le 5, 3) := by decide +kernel
theorem d_Chip_isSteady_66 : decode prog_2_method_9_code 66 = .ok (.iconst 0, 1) := by decide +kernel
theorem d_Chip_isSteady_67 : decode prog_2_method_9_code 67 = .ok (.ireturn, 1) := by decide +kernel
theorem d_Chip_isSteady_68 : decode prog_2_method_9_code 68 = .ok (.iinc 1 1, 3) := by decide +kernel
theorem d_Chip_isSteady_71 : decode prog_2_method_9_code 71 = .ok (.goto (-69), 3) := by decide +kernel
theorem d_Chip_isSteady_74 : decode prog_2_method_9_code 74 = .ok (.iconst 1, 1) := by decide +kernel
theorem d_Chip_isSteady_75 : decode prog_2_method_9_code 75 = .ok (.ireturn, 1) := by decide +kernel
theorem d_Chip_keepsLimits_0 : decode prog_2_method_10_code 0 = .ok (.iconst 0, 1) := by decide +kernel
theorem d_Chip_keepsLimits_1 : decode prog_2_method_10_code 1 = .ok (.istore_n 2, 1) := by decide +kernel
theorem d_Chip_keepsLimits_2 : decode prog_2_method_10_code 2 = .ok (.iload_n 2, 1) := by decide +kernel
theorem d_Chip_keepsLimits_3 : decode prog_2_method_10_code 3 = .ok (.bipush 6, 2) := by decide +kernel
theorem d_Chip_keepsLimits_5 : decode prog_2_method_10_code 5 = .ok (.if_icmp .ge 23, 3) := by decide +kernel
theorem d_Chip_keepsLimits_8 : decode prog_2_method_10_code 8 = .ok (.aload_n 1, 1) := by decide +kernel
theorem d_Chip_keepsLimits_9 : decode prog_2_method_10_code 9 = .ok (.iload_n 2, 1) := by decide +kernel
theorem d_Chip_keepsLimits_10 : decode prog_2_method_10_code 10 = .ok (.iaload, 1) := by decide +kernel
theorem d_Chip_keepsLimits_11 : decode prog_2_method_10_code 11 = .ok (.aload_n 0, 1) := by decide +kernel
theorem d_Chip_keepsLimits_12 : decode prog_2_method_10_code 12 = .ok (.getfield 30, 3) := by decide +kernel
theorem d_Chip_keepsLimits_15 : decode prog_2_method_10_code 15 = .ok (.iload_n 2, 1) := by decide +kernel
theorem d_Chip_keepsLimits_16 : decode prog_2_method_10_code 16 = .ok (.iaload, 1) := by decide +kernel
theorem d_Chip_keepsLimits_17 : decode prog_2_method_10_code 17 = .ok (.if_icmp .le 5, 3) := by decide +kernel
theorem d_Chip_keepsLimits_20 : decode prog_2_method_10_code 20 = .ok (.iconst 0, 1) := by decide +kernel
theorem d_Chip_keepsLimits_21 : decode prog_2_method_10_code 21 = .ok (.ireturn, 1) := by decide +kernel
theorem d_Chip_keepsLimits_22 : decode prog_2_method_10_code 22 = .ok (.iinc 2 1, 3) := by decide +kernel
theorem d_Chip_keepsLimits_25 : decode prog_2_method_10_code 25 = .ok (.goto (-23), 3) := by decide +kernel
theorem d_Chip_keepsLimits_28 : decode prog_2_method_10_code 28 = .ok (.iconst 1, 1) := by decide +kernel
theorem d_Chip_keepsLimits_29 : decode prog_2_method_10_code 29 = .ok (.ireturn, 1) := by decide +kernel
theorem d_Chip_leakAt_0 : decode prog_2_method_11_code 0 = .ok (.iload_n 1, 1) := by decide +kernel
theorem d_Chip_leakAt_1 : decode prog_2_method_11_code 1 = .ok (.aload_n 0, 1) := by decide +kernel
theorem d_Chip_leakAt_2 : decode prog_2_method_11_code 2 = .ok (.getfield 76, 3) := by decide +kernel
theorem d_Chip_leakAt_5 : decode prog_2_method_11_code 5 = .ok (.if_icmp .le 12, 3) := by decide +kernel
theorem d_Chip_leakAt_8 : decode prog_2_method_11_code 8 = .ok (.iload_n 1, 1) := by decide +kernel
theorem d_Chip_leakAt_9 : decode prog_2_method_11_code 9 = .ok (.aload_n 0, 1) := by decide +kernel
theorem d_Chip_leakAt_10 : decode prog_2_method_11_code 10 = .ok (.getfield 76, 3) := by decide +kernel
theorem d_Chip_leakAt_13 : decode prog_2_method_11_code 13 = .ok (.isub, 1) := by decide +kernel
theorem d_Chip_leakAt_14 : decode prog_2_method_11_code 14 = .ok (.goto 4, 3) := by decide +kernel
theorem d_Chip_leakAt_17 : decode prog_2_method_11_code 17 = .ok (.iconst 0, 1) := by decide +kernel
theorem d_Chip_leakAt_18 : decode prog_2_method_11_code 18 = .ok (.istore_n 2, 1) := by decide +kernel
theorem d_Chip_leakAt_19 : decode prog_2_method_11_code 19 = .ok (.aload_n 0, 1) := by decide +kernel
theorem d_Chip_leakAt_20 : decode prog_2_method_11_code 20 = .ok (.getfield 67, 3) := by decide +kernel
theorem d_Chip_leakAt_23 : decode prog_2_method_11_code 23 = .ok (.aload_n 0, 1) := by decide +kernel
theorem d_Chip_leakAt_24 : decode prog_2_method_11_code 24 = .ok (.getfield 70, 3) := by decide +kernel
theorem d_Chip_leakAt_27 : decode prog_2_method_11_code 27 = .ok (.iload_n 1, 1) := by decide +kernel
theorem d_Chip_leakAt_28 : decode prog_2_method_11_code 28 = .ok (.imul, 1) := by decide +kernel
theorem d_Chip_leakAt_29 : decode prog_2_method_11_code 29 = .ok (.iadd, 1) := by decide +kernel
theorem d_Chip_leakAt_30 : decode prog_2_method_11_code 30 = .ok (.aload_n 0, 1) := by decide +kernel
theorem d_Chip_leakAt_31 : decode prog_2_method_11_code 31 = .ok (.getfield 73, 3) := by decide +kernel
theorem d_Chip_leakAt_34 : decode prog_2_method_11_code 34 = .ok (.iload_n 2, 1) := by decide +kernel
theorem d_Chip_leakAt_35 : decode prog_2_method_11_code 35 = .ok (.imul, 1) := by decide +kernel
theorem d_Chip_leakAt_36 : decode prog_2_method_11_code 36 = .ok (.iadd, 1) := by decide +kernel
theorem d_Chip_leakAt_37 : decode prog_2_method_11_code 37 = .ok (.ireturn, 1) := by decide +kernel
theorem d_Chip_trueTick_0 : decode prog_2_method_12_code 0 = .ok (.iconst 0, 1) := by decide +kernel
theorem d_Chip_trueTick_1 : decode prog_2_method_12_code 1 = .ok (.istore_n 3, 1) := by decide +kernel
theorem d_Chip_trueTick_2 : decode prog_2_method_12_code 2 = .ok (.iload_n 3, 1) := by decide +kernel
theorem d_Chip_trueTick_3 : decode prog_2_method_12_code 3 = .ok (.bipush 6, 2) := by decide +kernel
theorem d_Chip_trueTick_5 : decode prog_2_method_12_code 5 = .ok (.if_icmp .ge 92, 3) := by decide +kernel
theorem d_Chip_trueTick_8 : decode prog_2_method_12_code 8 = .ok (.iload_n 3, 1) := by decide +kernel
theorem d_Chip_trueTick_9 : decode prog_2_method_12_code 9 = .ok (.iconst 4, 1) := by decide +kernel
theorem d_Chip_trueTick_10 : decode prog_2_method_12_code 10 = .ok (.if_icmp .ge 20, 3) := by decide +kernel
theorem d_Chip_trueTick_13 : decode prog_2_method_12_code 13 = .ok (.aload_n 2, 1) := by decide +kernel
theorem d_Chip_trueTick_14 : decode prog_2_method_12_code 14 = .ok (.iload_n 3, 1) := by decide +kernel
theorem d_Chip_trueTick_15 : decode prog_2_method_12_code 15 = .ok (.aload_n 0, 1) := by decide +kernel
theorem d_Chip_trueTick_16 : decode prog_2_method_12_code 16 = .ok (.invokevirtual 83, 3) := by decide +kernel
theorem d_Chip_trueTick_19 : decode prog_2_method_12_code 19 = .ok (.aload_n 0, 1) := by decide +kernel
theorem d_Chip_trueTick_20 : decode prog_2_method_12_code 20 = .ok (.aload_n 1, 1) := by decide +kernel
theorem d_Chip_trueTick_21 : decode prog_2_method_12_code 21 = .ok (.iload_n 3, 1) := by decide +kernel
theorem d_Chip_trueTick_22 : decode prog_2_method_12_code 22 = .ok (.iaload, 1) := by decide +kernel
theorem d_Chip_trueTick_23 : decode prog_2_method_12_code 23 = .ok (.invokevirtual 89, 3) := by decide +kernel
theorem d_Chip_trueTick_26 : decode prog_2_method_12_code 26 = .ok (.iadd, 1) := by decide +kernel
theorem d_Chip_trueTick_27 : decode prog_2_method_12_code 27 = .ok (.goto 4, 3) := by decide +kernel
theorem d_Chip_trueTick_30 : decode prog_2_method_12_code 30 = .ok (.iconst 0, 1) := by decide +kernel
theorem d_Chip_trueTick_31 : decode prog_2_method_12_code 31 = .ok (.istore 4, 2) := by decide +kernel
theorem d_Chip_trueTick_33 : decode prog_2_method_12_code 33 = .ok (.iconst 0, 1) := by decide +kernel
theorem d_Chip_trueTick_34 : decode prog_2_method_12_code 34 = .ok (.istore 5, 2) := by decide +kernel
theorem d_Chip_trueTick_36 : decode prog_2_method_12_code 36 = .ok (.iload 5, 2) := by decide +kernel
theorem d_Chip_trueTick_38 : decode prog_2_method_12_code 38 = .ok (.bipush 7, 2) := by decide +kernel
theorem d_Chip_trueTick_40 : decode prog_2_method_12_code 40 = .ok (.if_icmp .ge 34, 3) := by decide +kernel
theorem d_Chip_trueTick_43 : decode prog_2_method_12_code 43 = .ok (.iload 4, 2) := by decide +kernel
theorem d_Chip_trueTick_45 : decode prog_2_method_12_code 45 = .ok (.aload_n 0, 1) := by decide +kernel
theorem d_Chip_trueTick_46 : decode prog_2_method_12_code 46 = .ok (.getfield 27, 3) := by decide +kernel
theorem d_Chip_trueTick_49 : decode prog_2_method_12_code 49 = .ok (.iload_n 3, 1) := by decide +kernel
theorem d_Chip_trueTick_50 : decode prog_2_method_12_code 50 = .ok (.iload 5, 2) := by decide +kernel
theorem d_Chip_trueTick_52 : decode prog_2_method_12_code 52 = .ok (.invokestatic 59, 3) := by decide +kernel
theorem d_Chip_trueTick_55 : decode prog_2_method_12_code 55 = .ok (.iaload, 1) := by decide +kernel
theorem d_Chip_trueTick_56 : decode prog_2_method_12_code 56 = .ok (.aload_n 1, 1) := by decide +kernel
theorem d_Chip_trueTick_57 : decode prog_2_method_12_code 57 = .ok (.iload 5, 2) := by decide +kernel
theorem d_Chip_trueTick_59 : decode prog_2_method_12_code 59 = .ok (.iaload, 1) := by decide +kernel
theorem d_Chip_trueTick_60 : decode prog_2_method_12_code 60 = .ok (.aload_n 1, 1) := by decide +kernel
theorem d_Chip_trueTick_61 : decode prog_2_method_12_code 61 = .ok (.iload_n 3, 1) := by decide +kernel
theorem d_Chip_trueTick_62 : decode prog_2_method_12_code 62 = .ok (.iaload, 1) := by decide +kernel
theorem d_Chip_trueTick_63 : decode prog_2_method_12_code 63 = .ok (.isub, 1) := by decide +kernel
theorem d_Chip_trueTick_64 : decode prog_2_method_12_code 64 = .ok (.imul, 1) := by decide +kernel
theorem d_Chip_trueTick_65 : decode prog_2_method_12_code 65 = .ok (.iadd, 1) := by decide +kernel
theorem d_Chip_trueTick_66 : decode prog_2_method_12_code 66 = .ok (.istore 4, 2) := by decide +kernel
theorem d_Chip_trueTick_68 : decode prog_2_method_12_code 68 = .ok (.iinc 5 1, 3) := by decide +kernel
theorem d_Chip_trueTick_71 : decode prog_2_method_12_code 71 = .ok (.goto (-35), 3) := by decide +kernel
theorem d_Chip_trueTick_74 : decode prog_2_method_12_code 74 = .ok (.aload_n 0, 1) := by decide +kernel
theorem d_Chip_trueTick_75 : decode prog_2_method_12_code 75 = .ok (.getfield 36, 3) := by decide +kernel
theorem d_Chip_trueTick_78 : decode prog_2_method_12_code 78 = .ok (.iload_n 3, 1) := by decide +kernel
theorem d_Chip_trueTick_79 : decode prog_2_method_12_code 79 = .ok (.iload 4, 2) := by decide +kernel
theorem d_Chip_trueTick_81 : decode prog_2_method_12_code 81 = .ok (.aload_n 0, 1) := by decide +kernel
theorem d_Chip_trueTick_82 : decode prog_2_method_12_code 82 = .ok (.getfield 18, 3) := by decide +kernel
theorem d_Chip_trueTick_85 : decode prog_2_method_12_code 85 = .ok (.iload_n 3, 1) := by decide +kernel
theorem d_Chip_trueTick_86 : decode prog_2_method_12_code 86 = .ok (.iaload, 1) := by decide +kernel
theorem d_Chip_trueTick_87 : decode prog_2_method_12_code 87 = .ok (.invokestatic 92, 3) := by decide +kernel
theorem d_Chip_trueTick_90 : decode prog_2_method_12_code 90 = .ok (.iastore, 1) := by decide +kernel
theorem d_Chip_trueTick_91 : decode prog_2_method_12_code 91 = .ok (.iinc 3 1, 3) := by decide +kernel
theorem d_Chip_trueTick_94 : decode prog_2_method_12_code 94 = .ok (.goto (-92), 3) := by decide +kernel
theorem d_Chip_trueTick_97 : decode prog_2_method_12_code 97 = .ok (.aload_n 0, 1) := by decide +kernel
theorem d_Chip_trueTick_98 : decode prog_2_method_12_code 98 = .ok (.aload_n 1, 1) := by decide +kernel
theorem d_Chip_trueTick_99 : decode prog_2_method_12_code 99 = .ok (.invokevirtual 97, 3) := by decide +kernel
theorem d_Chip_trueTick_102 : decode prog_2_method_12_code 102 = .ok (.pop, 1) := by decide +kernel
theorem d_Chip_trueTick_103 : decode prog_2_method_12_code 103 = .ok (.return_, 1) := by decide +kernel
theorem d_Chip_boundTick_0 : decode prog_2_method_13_code 0 = .ok (.iconst 0, 1) := by decide +kernel
theorem d_Chip_boundTick_1 : decode prog_2_method_13_code 1 = .ok (.istore_n 3, 1) := by decide +kernel
theorem d_Chip_boundTick_2 : decode prog_2_method_13_code 2 = .ok (.iload_n 3, 1) := by decide +kernel
theorem d_Chip_boundTick_3 : decode prog_2_method_13_code 3 = .ok (.bipush 6, 2) := by decide +kernel
theorem d_Chip_boundTick_5 : decode prog_2_method_13_code 5 = .ok (.if_icmp .ge 56, 3) := by decide +kernel
theorem d_Chip_boundTick_8 : decode prog_2_method_13_code 8 = .ok (.iload_n 3, 1) := by decide +kernel
theorem d_Chip_boundTick_9 : decode prog_2_method_13_code 9 = .ok (.iconst 4, 1) := by decide +kernel
theorem d_Chip_boundTick_10 : decode prog_2_method_13_code 10 = .ok (.if_icmp .ge 22, 3) := by decide +kernel
theorem d_Chip_boundTick_13 : decode prog_2_method_13_code 13 = .ok (.aload_n 0, 1) := by decide +kernel
theorem d_Chip_boundTick_14 : decode prog_2_method_13_code 14 = .ok (.getfield 33, 3) := by decide +kernel
theorem d_Chip_boundTick_17 : decode prog_2_method_13_code 17 = .ok (.aload_n 2, 1) := by decide +kernel
theorem d_Chip_boundTick_18 : decode prog_2_method_13_code 18 = .ok (.iload_n 3, 1) := by decide +kernel
theorem d_Chip_boundTick_19 : decode prog_2_method_13_code 19 = .ok (.iaload, 1) := by decide +kernel
theorem d_Chip_boundTick_20 : decode prog_2_method_13_code 20 = .ok (.iaload, 1) := by decide +kernel
theorem d_Chip_boundTick_21 : decode prog_2_method_13_code 21 = .ok (.aload_n 0, 1) := by decide +kernel
theorem d_Chip_boundTick_22 : decode prog_2_method_13_code 22 = .ok (.aload_n 1, 1) := by decide +kernel
theorem d_Chip_boundTick_23 : decode prog_2_method_13_code 23 = .ok (.iload_n 3, 1) := by decide +kernel
theorem d_Chip_boundTick_24 : decode prog_2_method_13_code 24 = .ok (.iaload, 1) := by decide +kernel
theorem d_Chip_boundTick_25 : decode prog_2_method_13_code 25 = .ok (.invokevirtual 89, 3) := by decide +kernel
theorem d_Chip_boundTick_28 : decode prog_2_method_13_code 28 = .ok (.iadd, 1) := by decide +kernel
theorem d_Chip_boundTick_29 : decode prog_2_method_13_code 29 = .ok (.goto 4, 3) := by decide +kernel
theorem d_Chip_boundTick_32 : decode prog_2_method_13_code 32 = .ok (.iconst 0, 1) := by decide +kernel
theorem d_Chip_boundTick_33 : decode prog_2_method_13_code 33 = .ok (.istore 4, 2) := by decide +kernel
theorem d_Chip_boundTick_35 : decode prog_2_method_13_code 35 = .ok (.aload_n 0, 1) := by decide +kernel
theorem d_Chip_boundTick_36 : decode prog_2_method_13_code 36 = .ok (.getfield 36, 3) := by decide +kernel
theorem d_Chip_boundTick_39 : decode prog_2_method_13_code 39 = .ok (.iload_n 3, 1) := by decide +kernel
theorem d_Chip_boundTick_40 : decode prog_2_method_13_code 40 = .ok (.aload_n 0, 1) := by decide +kernel
theorem d_Chip_boundTick_41 : decode prog_2_method_13_code 41 = .ok (.iload_n 3, 1) := by decide +kernel
theorem d_Chip_boundTick_42 : decode prog_2_method_13_code 42 = .ok (.iload 4, 2) := by decide +kernel
theorem d_Chip_boundTick_44 : decode prog_2_method_13_code 44 = .ok (.aload_n 0, 1) := by decide +kernel
theorem d_Chip_boundTick_45 : decode prog_2_method_13_code 45 = .ok (.iload_n 3, 1) := by decide +kernel
theorem d_Chip_boundTick_46 : decode prog_2_method_13_code 46 = .ok (.aload_n 1, 1) := by decide +kernel
theorem d_Chip_boundTick_47 : decode prog_2_method_13_code 47 = .ok (.invokevirtual 101, 3) := by decide +kernel
theorem d_Chip_boundTick_50 : decode prog_2_method_13_code 50 = .ok (.iadd, 1) := by decide +kernel
theorem d_Chip_boundTick_51 : decode prog_2_method_13_code 51 = .ok (.invokevirtual 105, 3) := by decide +kernel
theorem d_Chip_boundTick_54 : decode prog_2_method_13_code 54 = .ok (.iastore, 1) := by decide +kernel
theorem d_Chip_boundTick_55 : decode prog_2_method_13_code 55 = .ok (.iinc 3 1, 3) := by decide +kernel
theorem d_Chip_boundTick_58 : decode prog_2_method_13_code 58 = .ok (.goto (-56), 3) := by decide +kernel
theorem d_Chip_boundTick_61 : decode prog_2_method_13_code 61 = .ok (.aload_n 0, 1) := by decide +kernel
theorem d_Chip_boundTick_62 : decode prog_2_method_13_code 62 = .ok (.aload_n 1, 1) := by decide +kernel
theorem d_Chip_boundTick_63 : decode prog_2_method_13_code 63 = .ok (.invokevirtual 97, 3) := by decide +kernel
theorem d_Chip_boundTick_66 : decode prog_2_method_13_code 66 = .ok (.ireturn, 1) := by decide +kernel
theorem d_Chip_worstInflow_0 : decode prog_2_method_14_code 0 = .ok (.iconst 0, 1) := by decide +kernel
theorem d_Chip_worstInflow_1 : decode prog_2_method_14_code 1 = .ok (.istore_n 3, 1) := by decide +kernel
theorem d_Chip_worstInflow_2 : decode prog_2_method_14_code 2 = .ok (.iload_n 1, 1) := by decide +kernel
theorem d_Chip_worstInflow_3 : decode prog_2_method_14_code 3 = .ok (.iconst 0, 1) := by decide +kernel
theorem d_Chip_worstInflow_4 : decode prog_2_method_14_code 4 = .ok (.invokestatic 59, 3) := by decide +kernel
theorem d_Chip_worstInflow_7 : decode prog_2_method_14_code 7 = .ok (.istore 4, 2) := by decide +kernel
theorem d_Chip_worstInflow_9 : decode prog_2_method_14_code 9 = .ok (.iconst 0, 1) := by decide +kernel
theorem d_Chip_worstInflow_10 : decode prog_2_method_14_code 10 = .ok (.istore 5, 2) := by decide +kernel
theorem d_Chip_worstInflow_12 : decode prog_2_method_14_code 12 = .ok (.iload 5, 2) := by decide +kernel
theorem d_Chip_worstInflow_14 : decode prog_2_method_14_code 14 = .ok (.bipush 7, 2) := by decide +kernel
theorem d_Chip_worstInflow_16 : decode prog_2_method_14_code 16 = .ok (.if_icmp .ge 51, 3) := by decide +kernel
theorem d_Chip_worstInflow_19 : decode prog_2_method_14_code 19 = .ok (.aload_n 2, 1) := by decide +kernel
theorem d_Chip_worstInflow_20 : decode prog_2_method_14_code 20 = .ok (.iload 5, 2) := by decide +kernel
theorem d_Chip_worstInflow_22 : decode prog_2_method_14_code 22 = .ok (.iaload, 1) := by decide +kernel
theorem d_Chip_worstInflow_23 : decode prog_2_method_14_code 23 = .ok (.aload_n 2, 1) := by decide +kernel
theorem d_Chip_worstInflow_24 : decode prog_2_method_14_code 24 = .ok (.iload_n 1, 1) := by decide +kernel
theorem d_Chip_worstInflow_25 : decode prog_2_method_14_code 25 = .ok (.iaload, 1) := by decide +kernel
theorem d_Chip_worstInflow_26 : decode prog_2_method_14_code 26 = .ok (.isub, 1) := by decide +kernel
theorem d_Chip_worstInflow_27 : decode prog_2_method_14_code 27 = .ok (.istore 6, 2) := by decide +kernel
theorem d_Chip_worstInflow_29 : decode prog_2_method_14_code 29 = .ok (.iload 6, 2) := by decide +kernel
theorem d_Chip_worstInflow_31 : decode prog_2_method_14_code 31 = .ok (.ifCond .le 10, 3) := by decide +kernel
theorem d_Chip_worstInflow_34 : decode prog_2_method_14_code 34 = .ok (.aload_n 0, 1) := by decide +kernel
theorem d_Chip_worstInflow_35 : decode prog_2_method_14_code 35 = .ok (.getfield 24, 3) := by decide +kernel
theorem d_Chip_worstInflow_38 : decode prog_2_method_14_code 38 = .ok (.goto 7, 3) := by decide +kernel
theorem d_Chip_worstInflow_41 : decode prog_2_method_14_code 41 = .ok (.aload_n 0, 1) := by decide +kernel
theorem d_Chip_worstInflow_42 : decode prog_2_method_14_code 42 = .ok (.getfield 21, 3) := by decide +kernel
theorem d_Chip_worstInflow_45 : decode prog_2_method_14_code 45 = .ok (.astore 7, 2) := by decide +kernel
theorem d_Chip_worstInflow_47 : decode prog_2_method_14_code 47 = .ok (.iload_n 3, 1) := by decide +kernel
theorem d_Chip_worstInflow_48 : decode prog_2_method_14_code 48 = .ok (.aload 7, 2) := by decide +kernel
theorem d_Chip_worstInflow_50 : decode prog_2_method_14_code 50 = .ok (.iload 4, 2) := by decide +kernel
theorem d_Chip_worstInflow_52 : decode prog_2_method_14_code 52 = .ok (.iload 5, 2) := by decide +kernel
theorem d_Chip_worstInflow_54 : decode prog_2_method_14_code 54 = .ok (.iadd, 1) := by decide +kernel
theorem d_Chip_worstInflow_55 : decode prog_2_method_14_code 55 = .ok (.iaload, 1) := by decide +kernel
theorem d_Chip_worstInflow_56 : decode prog_2_method_14_code 56 = .ok (.iload 6, 2) := by decide +kernel
theorem d_Chip_worstInflow_58 : decode prog_2_method_14_code 58 = .ok (.imul, 1) := by decide +kernel
theorem d_Chip_worstInflow_59 : decode prog_2_method_14_code 59 = .ok (.iadd, 1) := by decide +kernel
theorem d_Chip_worstInflow_60 : decode prog_2_method_14_code 60 = .ok (.istore_n 3, 1) := by decide +kernel
theorem d_Chip_worstInflow_61 : decode prog_2_method_14_code 61 = .ok (.iinc 5 1, 3) := by decide +kernel
theorem d_Chip_worstInflow_64 : decode prog_2_method_14_code 64 = .ok (.goto (-52), 3) := by decide +kernel
theorem d_Chip_worstInflow_67 : decode prog_2_method_14_code 67 = .ok (.iload_n 3, 1) := by decide +kernel
theorem d_Chip_worstInflow_68 : decode prog_2_method_14_code 68 = .ok (.ireturn, 1) := by decide +kernel
theorem d_Chip_worstGrowth_0 : decode prog_2_method_15_code 0 = .ok (.iload_n 2, 1) := by decide +kernel
theorem d_Chip_worstGrowth_1 : decode prog_2_method_15_code 1 = .ok (.ifCond .le 12, 3) := by decide +kernel
theorem d_Chip_worstGrowth_4 : decode prog_2_method_15_code 4 = .ok (.aload_n 0, 1) := by decide +kernel
theorem d_Chip_worstGrowth_5 : decode prog_2_method_15_code 5 = .ok (.getfield 9, 3) := by decide +kernel
theorem d_Chip_worstGrowth_8 : decode prog_2_method_15_code 8 = .ok (.iload_n 1, 1) := by decide +kernel
theorem d_Chip_worstGrowth_9 : decode prog_2_method_15_code 9 = .ok (.iaload, 1) := by decide +kernel
theorem d_Chip_worstGrowth_10 : decode prog_2_method_15_code 10 = .ok (.goto 9, 3) := by decide +kernel
theorem d_Chip_worstGrowth_13 : decode prog_2_method_15_code 13 = .ok (.aload_n 0, 1) := by decide +kernel
theorem d_Chip_worstGrowth_14 : decode prog_2_method_15_code 14 = .ok (.getfield 15, 3) := by decide +kernel
theorem d_Chip_worstGrowth_17 : decode prog_2_method_15_code 17 = .ok (.iload_n 1, 1) := by decide +kernel
theorem d_Chip_worstGrowth_18 : decode prog_2_method_15_code 18 = .ok (.iaload, 1) := by decide +kernel
theorem d_Chip_worstGrowth_19 : decode prog_2_method_15_code 19 = .ok (.istore_n 3, 1) := by decide +kernel
theorem d_Chip_worstGrowth_20 : decode prog_2_method_15_code 20 = .ok (.iload_n 2, 1) := by decide +kernel
theorem d_Chip_worstGrowth_21 : decode prog_2_method_15_code 21 = .ok (.ineg, 1) := by decide +kernel
theorem d_Chip_worstGrowth_22 : decode prog_2_method_15_code 22 = .ok (.iload_n 3, 1) := by decide +kernel
theorem d_Chip_worstGrowth_23 : decode prog_2_method_15_code 23 = .ok (.invokestatic 92, 3) := by decide +kernel
theorem d_Chip_worstGrowth_26 : decode prog_2_method_15_code 26 = .ok (.ineg, 1) := by decide +kernel
theorem d_Chip_worstGrowth_27 : decode prog_2_method_15_code 27 = .ok (.ireturn, 1) := by decide +kernel
theorem d_Chip_grow_0 : decode prog_2_method_16_code 0 = .ok (.iconst 0, 1) := by decide +kernel
theorem d_Chip_grow_1 : decode prog_2_method_16_code 1 = .ok (.istore_n 2, 1) := by decide +kernel
theorem d_Chip_grow_2 : decode prog_2_method_16_code 2 = .ok (.iconst 0, 1) := by decide +kernel
theorem d_Chip_grow_3 : decode prog_2_method_16_code 3 = .ok (.istore_n 3, 1) := by decide +kernel
theorem d_Chip_grow_4 : decode prog_2_method_16_code 4 = .ok (.iload_n 3, 1) := by decide +kernel
theorem d_Chip_grow_5 : decode prog_2_method_16_code 5 = .ok (.bipush 6, 2) := by decide +kernel
theorem d_Chip_grow_7 : decode prog_2_method_16_code 7 = .ok (.if_icmp .ge 38, 3) := by decide +kernel
theorem d_Chip_grow_10 : decode prog_2_method_16_code 10 = .ok (.aload_n 1, 1) := by decide +kernel
theorem d_Chip_grow_11 : decode prog_2_method_16_code 11 = .ok (.iload_n 3, 1) := by decide +kernel
theorem d_Chip_grow_12 : decode prog_2_method_16_code 12 = .ok (.dup2, 1) := by decide +kernel
theorem d_Chip_grow_13 : decode prog_2_method_16_code 13 = .ok (.iaload, 1) := by decide +kernel
theorem d_Chip_grow_14 : decode prog_2_method_16_code 14 = .ok (.aload_n 0, 1) := by decide +kernel
theorem d_Chip_grow_15 : decode prog_2_method_16_code 15 = .ok (.getfield 36, 3) := by decide +kernel
theorem d_Chip_grow_18 : decode prog_2_method_16_code 18 = .ok (.iload_n 3, 1) := by decide +kernel
theorem d_Chip_grow_19 : decode prog_2_method_16_code 19 = .ok (.iaload, 1) := by decide +kernel
theorem d_Chip_grow_20 : decode prog_2_method_16_code 20 = .ok (.iadd, 1) := by decide +kernel
theorem d_Chip_grow_21 : decode prog_2_method_16_code 21 = .ok (.iastore, 1) := by decide +kernel
theorem d_Chip_grow_22 : decode prog_2_method_16_code 22 = .ok (.iload_n 2, 1) := by decide +kernel
theorem d_Chip_grow_23 : decode prog_2_method_16_code 23 = .ok (.aload_n 0, 1) := by decide +kernel
theorem d_Chip_grow_24 : decode prog_2_method_16_code 24 = .ok (.getfield 36, 3) := by decide +kernel
theorem d_Chip_grow_27 : decode prog_2_method_16_code 27 = .ok (.iload_n 3, 1) := by decide +kernel
theorem d_Chip_grow_28 : decode prog_2_method_16_code 28 = .ok (.iaload, 1) := by decide +kernel
theorem d_Chip_grow_29 : decode prog_2_method_16_code 29 = .ok (.ifCond .le 7, 3) := by decide +kernel
theorem d_Chip_grow_32 : decode prog_2_method_16_code 32 = .ok (.iconst 1, 1) := by decide +kernel
theorem d_Chip_grow_33 : decode prog_2_method_16_code 33 = .ok (.goto 4, 3) := by decide +kernel
theorem d_Chip_grow_36 : decode prog_2_method_16_code 36 = .ok (.iconst 0, 1) := by decide +kernel
theorem d_Chip_grow_37 : decode prog_2_method_16_code 37 = .ok (.ior, 1) := by decide +kernel
theorem d_Chip_grow_38 : decode prog_2_method_16_code 38 = .ok (.istore_n 2, 1) := by decide +kernel
theorem d_Chip_grow_39 : decode prog_2_method_16_code 39 = .ok (.iinc 3 1, 3) := by decide +kernel
theorem d_Chip_grow_42 : decode prog_2_method_16_code 42 = .ok (.goto (-38), 3) := by decide +kernel
theorem d_Chip_grow_45 : decode prog_2_method_16_code 45 = .ok (.iload_n 2, 1) := by decide +kernel
theorem d_Chip_grow_46 : decode prog_2_method_16_code 46 = .ok (.ireturn, 1) := by decide +kernel
