theorem d_Cores_init_0 : decode prog_3_method_1_code 0 = .ok (.aload_n 0, 1) := by decide +kernel
theorem d_Cores_init_1 : decode prog_3_method_1_code 1 = .ok (.invokespecial 3, 3) := by decide +kernel
theorem d_Cores_init_4 : decode prog_3_method_1_code 4 = .ok (.aload_n 0, 1) := by decide +kernel
theorem d_Cores_init_5 : decode prog_3_method_1_code 5 = .ok (.iconst 4, 1) := by decide +kernel
theorem d_Cores_init_6 : decode prog_3_method_1_code 6 = .ok (.newarray .int, 2) := by decide +kernel
theorem d_Cores_init_8 : decode prog_3_method_1_code 8 = .ok (.putfield 9, 3) := by decide +kernel
theorem d_Cores_init_11 : decode prog_3_method_1_code 11 = .ok (.aload_n 0, 1) := by decide +kernel
theorem d_Cores_init_12 : decode prog_3_method_1_code 12 = .ok (.iconst 4, 1) := by decide +kernel
theorem d_Cores_init_13 : decode prog_3_method_1_code 13 = .ok (.newarray .int, 2) := by decide +kernel
theorem d_Cores_init_15 : decode prog_3_method_1_code 15 = .ok (.putfield 15, 3) := by decide +kernel
theorem d_Cores_init_18 : decode prog_3_method_1_code 18 = .ok (.aload_n 0, 1) := by decide +kernel
theorem d_Cores_init_19 : decode prog_3_method_1_code 19 = .ok (.iconst 4, 1) := by decide +kernel
theorem d_Cores_init_20 : decode prog_3_method_1_code 20 = .ok (.newarray .int, 2) := by decide +kernel
theorem d_Cores_init_22 : decode prog_3_method_1_code 22 = .ok (.putfield 18, 3) := by decide +kernel
theorem d_Cores_init_25 : decode prog_3_method_1_code 25 = .ok (.aload_n 0, 1) := by decide +kernel
theorem d_Cores_init_26 : decode prog_3_method_1_code 26 = .ok (.iconst 4, 1) := by decide +kernel
theorem d_Cores_init_27 : decode prog_3_method_1_code 27 = .ok (.newarray .int, 2) := by decide +kernel
theorem d_Cores_init_29 : decode prog_3_method_1_code 29 = .ok (.putfield 21, 3) := by decide +kernel
theorem d_Cores_init_32 : decode prog_3_method_1_code 32 = .ok (.aload_n 0, 1) := by decide +kernel
theorem d_Cores_init_33 : decode prog_3_method_1_code 33 = .ok (.iconst 4, 1) := by decide +kernel
theorem d_Cores_init_34 : decode prog_3_method_1_code 34 = .ok (.newarray .int, 2) := by decide +kernel
theorem d_Cores_init_36 : decode prog_3_method_1_code 36 = .ok (.putfield 24, 3) := by decide +kernel
theorem d_Cores_init_39 : decode prog_3_method_1_code 39 = .ok (.aload_n 0, 1) := by decide +kernel
theorem d_Cores_init_40 : decode prog_3_method_1_code 40 = .ok (.iconst 4, 1) := by decide +kernel
theorem d_Cores_init_41 : decode prog_3_method_1_code 41 = .ok (.newarray .int, 2) := by decide +kernel
theorem d_Cores_init_43 : decode prog_3_method_1_code 43 = .ok (.putfield 27, 3) := by decide +kernel
theorem d_Cores_init_46 : decode prog_3_method_1_code 46 = .ok (.return_, 1) := by decide +kernel
theorem d_Cores_begin_0 : decode prog_3_method_2_code 0 = .ok (.aload_n 0, 1) := by decide +kernel
theorem d_Cores_begin_1 : decode prog_3_method_2_code 1 = .ok (.getfield 9, 3) := by decide +kernel
theorem d_Cores_begin_4 : decode prog_3_method_2_code 4 = .ok (.iconst 0, 1) := by decide +kernel
theorem d_Cores_begin_5 : decode prog_3_method_2_code 5 = .ok (.invokestatic 30, 3) := by decide +kernel
theorem d_Cores_begin_8 : decode prog_3_method_2_code 8 = .ok (.aload_n 0, 1) := by decide +kernel
theorem d_Cores_begin_9 : decode prog_3_method_2_code 9 = .ok (.getfield 15, 3) := by decide +kernel
theorem d_Cores_begin_12 : decode prog_3_method_2_code 12 = .ok (.iconst (-1), 1) := by decide +kernel
theorem d_Cores_begin_13 : decode prog_3_method_2_code 13 = .ok (.invokestatic 30, 3) := by decide +kernel
theorem d_Cores_begin_16 : decode prog_3_method_2_code 16 = .ok (.aload_n 0, 1) := by decide +kernel
theorem d_Cores_begin_17 : decode prog_3_method_2_code 17 = .ok (.getfield 18, 3) := by decide +kernel
theorem d_Cores_begin_20 : decode prog_3_method_2_code 20 = .ok (.iconst 0, 1) := by decide +kernel
theorem d_Cores_begin_21 : decode prog_3_method_2_code 21 = .ok (.invokestatic 30, 3) := by decide +kernel
theorem d_Cores_begin_24 : decode prog_3_method_2_code 24 = .ok (.aload_n 0, 1) := by decide +kernel
theorem d_Cores_begin_25 : decode prog_3_method_2_code 25 = .ok (.getfield 21, 3) := by decide +kernel
theorem d_Cores_begin_28 : decode prog_3_method_2_code 28 = .ok (.iconst 0, 1) := by decide +kernel
theorem d_Cores_begin_29 : decode prog_3_method_2_code 29 = .ok (.invokestatic 30, 3) := by decide +kernel
theorem d_Cores_begin_32 : decode prog_3_method_2_code 32 = .ok (.aload_n 0, 1) := by decide +kernel
theorem d_Cores_begin_33 : decode prog_3_method_2_code 33 = .ok (.getfield 24, 3) := by decide +kernel
theorem d_Cores_begin_36 : decode prog_3_method_2_code 36 = .ok (.iconst 0, 1) := by decide +kernel
theorem d_Cores_begin_37 : decode prog_3_method_2_code 37 = .ok (.invokestatic 30, 3) := by decide +kernel
theorem d_Cores_begin_40 : decode prog_3_method_2_code 40 = .ok (.aload_n 0, 1) := by decide +kernel
theorem d_Cores_begin_41 : decode prog_3_method_2_code 41 = .ok (.iconst 0, 1) := by decide +kernel
theorem d_Cores_begin_42 : decode prog_3_method_2_code 42 = .ok (.putfield 36, 3) := by decide +kernel
theorem d_Cores_begin_45 : decode prog_3_method_2_code 45 = .ok (.return_, 1) := by decide +kernel
theorem d_Cores_trueDraw_0 : decode prog_3_method_3_code 0 = .ok (.aload_n 0, 1) := by decide +kernel
theorem d_Cores_trueDraw_1 : decode prog_3_method_3_code 1 = .ok (.getfield 24, 3) := by decide +kernel
theorem d_Cores_trueDraw_4 : decode prog_3_method_3_code 4 = .ok (.iload_n 1, 1) := by decide +kernel
theorem d_Cores_trueDraw_5 : decode prog_3_method_3_code 5 = .ok (.iaload, 1) := by decide +kernel
theorem d_Cores_trueDraw_6 : decode prog_3_method_3_code 6 = .ok (.aload_n 2, 1) := by decide +kernel
theorem d_Cores_trueDraw_7 : decode prog_3_method_3_code 7 = .ok (.getfield 40, 3) := by decide +kernel
theorem d_Cores_trueDraw_10 : decode prog_3_method_3_code 10 = .ok (.aload_n 0, 1) := by decide +kernel
theorem d_Cores_trueDraw_11 : decode prog_3_method_3_code 11 = .ok (.getfield 9, 3) := by decide +kernel
theorem d_Cores_trueDraw_14 : decode prog_3_method_3_code 14 = .ok (.iload_n 1, 1) := by decide +kernel
theorem d_Cores_trueDraw_15 : decode prog_3_method_3_code 15 = .ok (.iaload, 1) := by decide +kernel
theorem d_Cores_trueDraw_16 : decode prog_3_method_3_code 16 = .ok (.iaload, 1) := by decide +kernel
theorem d_Cores_trueDraw_17 : decode prog_3_method_3_code 17 = .ok (.invokestatic 45, 3) := by decide +kernel
theorem d_Cores_trueDraw_20 : decode prog_3_method_3_code 20 = .ok (.ireturn, 1) := by decide +kernel
theorem d_Cores_isBusy_0 : decode prog_3_method_4_code 0 = .ok (.iconst 0, 1) := by decide +kernel
theorem d_Cores_isBusy_1 : decode prog_3_method_4_code 1 = .ok (.istore_n 1, 1) := by decide +kernel
theorem d_Cores_isBusy_2 : decode prog_3_method_4_code 2 = .ok (.iload_n 1, 1) := by decide +kernel
theorem d_Cores_isBusy_3 : decode prog_3_method_4_code 3 = .ok (.iconst 4, 1) := by decide +kernel
theorem d_Cores_isBusy_4 : decode prog_3_method_4_code 4 = .ok (.if_icmp .ge 20, 3) := by decide +kernel
theorem d_Cores_isBusy_7 : decode prog_3_method_4_code 7 = .ok (.aload_n 0, 1) := by decide +kernel
theorem d_Cores_isBusy_8 : decode prog_3_method_4_code 8 = .ok (.getfield 9, 3) := by decide +kernel
theorem d_Cores_isBusy_11 : decode prog_3_method_4_code 11 = .ok (.iload_n 1, 1) := by decide +kernel
theorem d_Cores_isBusy_12 : decode prog_3_method_4_code 12 = .ok (.iaload, 1) := by decide +kernel
theorem d_Cores_isBusy_13 : decode prog_3_method_4_code 13 = .ok (.ifCond .le 5, 3) := by decide +kernel
theorem d_Cores_isBusy_16 : decode prog_3_method_4_code 16 = .ok (.iconst 1, 1) := by decide +kernel
theorem d_Cores_isBusy_17 : decode prog_3_method_4_code 17 = .ok (.ireturn, 1) := by decide +kernel
theorem d_Cores_isBusy_18 : decode prog_3_method_4_code 18 = .ok (.iinc 1 1, 3) := by decide +kernel
theorem d_Cores_isBusy_21 : decode prog_3_method_4_code 21 = .ok (.goto (-19), 3) := by decide +kernel
theorem d_Cores_isBusy_24 : decode prog_3_method_4_code 24 = .ok (.iconst 0, 1) := by decide +kernel
theorem d_Cores_isBusy_25 : decode prog_3_method_4_code 25 = .ok (.ireturn, 1) := by decide +kernel
theorem d_Cores_passTick_0 : decode prog_3_method_5_code 0 = .ok (.aload_n 0, 1) := by decide +kernel
theorem d_Cores_passTick_1 : decode prog_3_method_5_code 1 = .ok (.getfield 36, 3) := by decide +kernel
theorem d_Cores_passTick_4 : decode prog_3_method_5_code 4 = .ok (.bipush 8, 2) := by decide +kernel
theorem d_Cores_passTick_6 : decode prog_3_method_5_code 6 = .ok (.if_icmp .ge 13, 3) := by decide +kernel
theorem d_Cores_passTick_9 : decode prog_3_method_5_code 9 = .ok (.aload_n 0, 1) := by decide +kernel
theorem d_Cores_passTick_10 : decode prog_3_method_5_code 10 = .ok (.dup, 1) := by decide +kernel
theorem d_Cores_passTick_11 : decode prog_3_method_5_code 11 = .ok (.getfield 36, 3) := by decide +kernel
theorem d_Cores_passTick_14 : decode prog_3_method_5_code 14 = .ok (.iconst 1, 1) := by decide +kernel
theorem d_Cores_passTick_15 : decode prog_3_method_5_code 15 = .ok (.iadd, 1) := by decide +kernel
theorem d_Cores_passTick_16 : decode prog_3_method_5_code 16 = .ok (.putfield 36, 3) := by decide +kernel
theorem d_Cores_passTick_19 : decode prog_3_method_5_code 19 = .ok (.aload_n 0, 1) := by decide +kernel
theorem d_Cores_passTick_20 : decode prog_3_method_5_code 20 = .ok (.getfield 36, 3) := by decide +kernel
theorem d_Cores_passTick_23 : decode prog_3_method_5_code 23 = .ok (.bipush 8, 2) := by decide +kernel
theorem d_Cores_passTick_25 : decode prog_3_method_5_code 25 = .ok (.if_icmp .ne 11, 3) := by decide +kernel
theorem d_Cores_passTick_28 : decode prog_3_method_5_code 28 = .ok (.aload_n 0, 1) := by decide +kernel
theorem d_Cores_passTick_29 : decode prog_3_method_5_code 29 = .ok (.getfield 9, 3) := by decide +kernel
theorem d_Cores_passTick_32 : decode prog_3_method_5_code 32 = .ok (.iconst 0, 1) := by decide +kernel
theorem d_Cores_passTick_33 : decode prog_3_method_5_code 33 = .ok (.invokestatic 30, 3) := by decide +kernel
theorem d_Cores_passTick_36 : decode prog_3_method_5_code 36 = .ok (.return_, 1) := by decide +kernel
theorem d_Cores_beginPeriod_0 : decode prog_3_method_6_code 0 = .ok (.iconst 0, 1) := by decide +kernel
theorem d_Cores_beginPeriod_1 : decode prog_3_method_6_code 1 = .ok (.istore_n 3, 1) := by decide +kernel
theorem d_Cores_beginPeriod_2 : decode prog_3_method_6_code 2 = .ok (.iload_n 3, 1) := by decide +kernel
theorem d_Cores_beginPeriod_3 : decode prog_3_method_6_code 3 = .ok (.iconst 4, 1) := by decide +kernel
theorem d_Cores_beginPeriod_4 : decode prog_3_method_6_code 4 = .ok (.if_icmp .ge 25, 3) := by decide +kernel
theorem d_Cores_beginPeriod_7 : decode prog_3_method_6_code 7 = .ok (.aload_n 0, 1) := by decide +kernel
theorem d_Cores_beginPeriod_8 : decode prog_3_method_6_code 8 = .ok (.getfield 27, 3) := by decide +kernel
theorem d_Cores_beginPeriod_11 : decode prog_3_method_6_code 11 = .ok (.iload_n 3, 1) := by decide +kernel
theorem d_Cores_beginPeriod_12 : decode prog_3_method_6_code 12 = .ok (.aload_n 0, 1) := by decide +kernel
theorem d_Cores_beginPeriod_13 : decode prog_3_method_6_code 13 = .ok (.getfield 15, 3) := by decide +kernel
theorem d_Cores_beginPeriod_16 : decode prog_3_method_6_code 16 = .ok (.iload_n 3, 1) := by decide +kernel
theorem d_Cores_beginPeriod_17 : decode prog_3_method_6_code 17 = .ok (.iaload, 1) := by decide +kernel
theorem d_Cores_beginPeriod_18 : decode prog_3_method_6_code 18 = .ok (.iconst 0, 1) := by decide +kernel
theorem d_Cores_beginPeriod_19 : decode prog_3_method_6_code 19 = .ok (.invokestatic 51, 3) := by decide +kernel
theorem d_Cores_beginPeriod_22 : decode prog_3_method_6_code 22 = .ok (.iastore, 1) := by decide +kernel
theorem d_Cores_beginPeriod_23 : decode prog_3_method_6_code 23 = .ok (.iinc 3 1, 3) := by decide +kernel
theorem d_Cores_beginPeriod_26 : decode prog_3_method_6_code 26 = .ok (.goto (-24), 3) := by decide +kernel
theorem d_Cores_beginPeriod_29 : decode prog_3_method_6_code 29 = .ok (.aload_n 1, 1) := by decide +kernel
theorem d_Cores_beginPeriod_30 : decode prog_3_method_6_code 30 = .ok (.aload_n 2, 1) := by decide +kernel
theorem d_Cores_beginPeriod_31 : decode prog_3_method_6_code 31 = .ok (.aload_n 0, 1) := by decide +kernel
theorem d_Cores_beginPeriod_32 : decode prog_3_method_6_code 32 = .ok (.getfield 27, 3) := by decide +kernel
theorem d_Cores_beginPeriod_35 : decode prog_3_method_6_code 35 = .ok (.invokevirtual 54, 3) := by decide +kernel
theorem d_Cores_beginPeriod_38 : decode prog_3_method_6_code 38 = .ok (.ifCond .ne 9, 3) := by decide +kernel
theorem d_Cores_beginPeriod_41 : decode prog_3_method_6_code 41 = .ok (.aload_n 0, 1) := by decide +kernel
theorem d_Cores_beginPeriod_42 : decode prog_3_method_6_code 42 = .ok (.aload_n 1, 1) := by decide +kernel
theorem d_Cores_beginPeriod_43 : decode prog_3_method_6_code 43 = .ok (.aload_n 2, 1) := by decide +kernel
theorem d_Cores_beginPeriod_44 : decode prog_3_method_6_code 44 = .ok (.invokevirtual 60, 3) := by decide +kernel
theorem d_Cores_beginPeriod_47 : decode prog_3_method_6_code 47 = .ok (.aload_n 0, 1) := by decide +kernel
theorem d_Cores_beginPeriod_48 : decode prog_3_method_6_code 48 = .ok (.getfield 27, 3) := by decide +kernel
theorem d_Cores_beginPeriod_51 : decode prog_3_method_6_code 51 = .ok (.iconst 0, 1) := by decide +kernel
theorem d_Cores_beginPeriod_52 : decode prog_3_method_6_code 52 = .ok (.aload_n 0, 1) := by decide +kernel
theorem d_Cores_beginPeriod_53 : decode prog_3_method_6_code 53 = .ok (.getfield 9, 3) := by decide +kernel
theorem d_Cores_beginPeriod_56 : decode prog_3_method_6_code 56 = .ok (.iconst 0, 1) := by decide +kernel
theorem d_Cores_beginPeriod_57 : decode prog_3_method_6_code 57 = .ok (.iconst 4, 1) := by decide +kernel
theorem d_Cores_beginPeriod_58 : decode prog_3_method_6_code 58 = .ok (.invokestatic 64, 3) := by decide +kernel
theorem d_Cores_beginPeriod_61 : decode prog_3_method_6_code 61 = .ok (.aload_n 0, 1) := by decide +kernel
theorem d_Cores_beginPeriod_62 : decode prog_3_method_6_code 62 = .ok (.iconst 0, 1) := by decide +kernel
theorem d_Cores_beginPeriod_63 : decode prog_3_method_6_code 63 = .ok (.putfield 36, 3) := by decide +kernel
theorem d_Cores_beginPeriod_66 : decode prog_3_method_6_code 66 = .ok (.aload_n 0, 1) := by decide +kernel
theorem d_Cores_beginPeriod_67 : decode prog_3_method_6_code 67 = .ok (.invokevirtual 70, 3) := by decide +kernel
theorem d_Cores_beginPeriod_70 : decode prog_3_method_6_code 70 = .ok (.ireturn, 1) := by decide +kernel
theorem d_Cores_grantInTurn_0 : decode prog_3_method_7_code 0 = .ok (.aload_n 0, 1) := by decide +kernel
theorem d_Cores_grantInTurn_1 : decode prog_3_method_7_code 1 = .ok (.getfield 27, 3) := by decide +kernel
theorem d_Cores_grantInTurn_4 : decode prog_3_method_7_code 4 = .ok (.iconst 0, 1) := by decide +kernel
theorem d_Cores_grantInTurn_5 : decode prog_3_method_7_code 5 = .ok (.invokestatic 30, 3) := by decide +kernel
theorem d_Cores_grantInTurn_8 : decode prog_3_method_7_code 8 = .ok (.iconst 0, 1) := by decide +kernel
theorem d_Cores_grantInTurn_9 : decode prog_3_method_7_code 9 = .ok (.istore_n 3, 1) := by decide +kernel
theorem d_Cores_grantInTurn_10 : decode prog_3_method_7_code 10 = .ok (.iconst 0, 1) := by decide +kernel
theorem d_Cores_grantInTurn_11 : decode prog_3_method_7_code 11 = .ok (.istore 4, 2) := by decide +kernel
theorem d_Cores_grantInTurn_13 : decode prog_3_method_7_code 13 = .ok (.iload 4, 2) := by decide +kernel
theorem d_Cores_grantInTurn_15 : decode prog_3_method_7_code 15 = .ok (.iconst 4, 1) := by decide +kernel
theorem d_Cores_grantInTurn_16 : decode prog_3_method_7_code 16 = .ok (.if_icmp .ge 31, 3) := by decide +kernel
theorem d_Cores_grantInTurn_19 : decode prog_3_method_7_code 19 = .ok (.aload_n 0, 1) := by decide +kernel
theorem d_Cores_grantInTurn_20 : decode prog_3_method_7_code 20 = .ok (.iload_n 3, 1) := by decide +kernel
theorem d_Cores_grantInTurn_21 : decode prog_3_method_7_code 21 = .ok (.invokevirtual 74, 3) := by decide +kernel
theorem d_Cores_grantInTurn_24 : decode prog_3_method_7_code 24 = .ok (.istore 5, 2) := by decide +kernel
theorem d_Cores_grantInTurn_26 : decode prog_3_method_7_code 26 = .ok (.iload_n 3, 1) := by decide +kernel
theorem d_Cores_grantInTurn_27 : decode prog_3_method_7_code 27 = .ok (.iconst 1, 1) := by decide +kernel
theorem d_Cores_grantInTurn_28 : decode prog_3_method_7_code 28 = .ok (.iload 5, 2) := by decide +kernel
theorem d_Cores_grantInTurn_30 : decode prog_3_method_7_code 30 = .ok (.ishl, 1) := by decide +kernel
theorem d_Cores_grantInTurn_31 : decode prog_3_method_7_code 31 = .ok (.ior, 1) := by decide +kernel
theorem d_Cores_grantInTurn_32 : decode prog_3_method_7_code 32 = .ok (.istore_n 3, 1) := by decide +kernel
theorem d_Cores_grantInTurn_33 : decode prog_3_method_7_code 33 = .ok (.aload_n 0, 1) := by decide +kernel
theorem d_Cores_grantInTurn_34 : decode prog_3_method_7_code 34 = .ok (.iload 5, 2) := by decide +kernel
theorem d_Cores_grantInTurn_36 : decode prog_3_method_7_code 36 = .ok (.aload_n 1, 1) := by decide +kernel
theorem d_Cores_grantInTurn_37 : decode prog_3_method_7_code 37 = .ok (.aload_n 2, 1) := by decide +kernel
theorem d_Cores_grantInTurn_38 : decode prog_3_method_7_code 38 = .ok (.invokevirtual 78, 3) := by decide +kernel
theorem d_Cores_grantInTurn_41 : decode prog_3_method_7_code 41 = .ok (.iinc 4 1, 3) := by decide +kernel
theorem d_Cores_grantInTurn_44 : decode prog_3_method_7_code 44 = .ok (.goto (-31), 3) := by decide +kernel
theorem d_Cores_grantInTurn_47 : decode prog_3_method_7_code 47 = .ok (.return_, 1) := by decide +kernel
theorem d_Cores_firstBut_0 : decode prog_3_method_8_code 0 = .ok (.iconst 0, 1) := by decide +kernel
theorem d_Cores_firstBut_1 : decode prog_3_method_8_code 1 = .ok (.istore_n 2, 1) := by decide +kernel
theorem d_Cores_firstBut_2 : decode prog_3_method_8_code 2 = .ok (.iconst 0, 1) := by decide +kernel
theorem d_Cores_firstBut_3 : decode prog_3_method_8_code 3 = .ok (.istore_n 3, 1) := by decide +kernel
theorem d_Cores_firstBut_4 : decode prog_3_method_8_code 4 = .ok (.iconst 0, 1) := by decide +kernel
theorem d_Cores_firstBut_5 : decode prog_3_method_8_code 5 = .ok (.istore 4, 2) := by decide +kernel
theorem d_Cores_firstBut_7 : decode prog_3_method_8_code 7 = .ok (.iload 4, 2) := by decide +kernel
theorem d_Cores_firstBut_9 : decode prog_3_method_8_code 9 = .ok (.iconst 4, 1) := by decide +kernel
theorem d_Cores_firstBut_10 : decode prog_3_method_8_code 10 = .ok (.if_icmp .ge 49, 3) := by decide +kernel
theorem d_Cores_firstBut_13 : decode prog_3_method_8_code 13 = .ok (.iload_n 1, 1) := by decide +kernel
theorem d_Cores_firstBut_14 : decode prog_3_method_8_code 14 = .ok (.iconst 1, 1) := by decide +kernel
theorem d_Cores_firstBut_15 : decode prog_3_method_8_code 15 = .ok (.iload 4, 2) := by decide +kernel
theorem d_Cores_firstBut_17 : decode prog_3_method_8_code 17 = .ok (.ishl, 1) := by decide +kernel
theorem d_Cores_firstBut_18 : decode prog_3_method_8_code 18 = .ok (.iand, 1) := by decide +kernel
theorem d_Cores_firstBut_19 : decode prog_3_method_8_code 19 = .ok (.ifCond .ne 7, 3) := by decide +kernel
theorem d_Cores_firstBut_22 : decode prog_3_method_8_code 22 = .ok (.iconst 1, 1) := by decide +kernel
theorem d_Cores_firstBut_23 : decode prog_3_method_8_code 23 = .ok (.goto 4, 3) := by decide +kernel
theorem d_Cores_firstBut_26 : decode prog_3_method_8_code 26 = .ok (.iconst 0, 1) := by decide +kernel
theorem d_Cores_firstBut_27 : decode prog_3_method_8_code 27 = .ok (.istore 5, 2) := by decide +kernel
theorem d_Cores_firstBut_29 : decode prog_3_method_8_code 29 = .ok (.iload 5, 2) := by decide +kernel
theorem d_Cores_firstBut_31 : decode prog_3_method_8_code 31 = .ok (.ifCond .eq 22, 3) := by decide +kernel
theorem d_Cores_firstBut_34 : decode prog_3_method_8_code 34 = .ok (.iload_n 3, 1) := by decide +kernel
theorem d_Cores_firstBut_35 : decode prog_3_method_8_code 35 = .ok (.ifCond .eq 13, 3) := by decide +kernel
theorem d_Cores_firstBut_38 : decode prog_3_method_8_code 38 = .ok (.aload_n 0, 1) := by decide +kernel
theorem d_Cores_firstBut_39 : decode prog_3_method_8_code 39 = .ok (.iload 4, 2) := by decide +kernel
theorem d_Cores_firstBut_41 : decode prog_3_method_8_code 41 = .ok (.iload_n 2, 1) := by decide +kernel
theorem d_Cores_firstBut_42 : decode prog_3_method_8_code 42 = .ok (.invokevirtual 82, 3) := by decide +kernel
theorem d_Cores_firstBut_45 : decode prog_3_method_8_code 45 = .ok (.ifCond .eq 8, 3) := by decide +kernel
theorem d_Cores_firstBut_48 : decode prog_3_method_8_code 48 = .ok (.iload 4, 2) := by decide +kernel
theorem d_Cores_firstBut_50 : decode prog_3_method_8_code 50 = .ok (.istore_n 2, 1) := by decide +kernel
theorem d_Cores_firstBut_51 : decode prog_3_method_8_code 51 = .ok (.iconst 1, 1) := by decide +kernel
theorem d_Cores_firstBut_52 : decode prog_3_method_8_code 52 = .ok (.istore_n 3, 1) := by decide +kernel
theorem d_Cores_firstBut_53 : decode prog_3_method_8_code 53 = .ok (.iinc 4 1, 3) := by decide +kernel
theorem d_Cores_firstBut_56 : decode prog_3_method_8_code 56 = .ok (.goto (-49), 3) := by decide +kernel
theorem d_Cores_firstBut_59 : decode prog_3_method_8_code 59 = .ok (.iload_n 2, 1) := by decide +kernel
theorem d_Cores_firstBut_60 : decode prog_3_method_8_code 60 = .ok (.ireturn, 1) := by decide +kernel
theorem d_Cores_comesBefore_0 : decode prog_3_method_9_code 0 = .ok (.aload_n 0, 1) := by decide +kernel
theorem d_Cores_comesBefore_1 : decode prog_3_method_9_code 1 = .ok (.getfield 18, 3) := by decide +kernel
theorem d_Cores_comesBefore_4 : decode prog_3_method_9_code 4 = .ok (.iload_n 1, 1) := by decide +kernel
theorem d_Cores_comesBefore_5 : decode prog_3_method_9_code 5 = .ok (.iaload, 1) := by decide +kernel
theorem d_Cores_comesBefore_6 : decode prog_3_method_9_code 6 = .ok (.aload_n 0, 1) := by decide +kernel
theorem d_Cores_comesBefore_7 : decode prog_3_method_9_code 7 = .ok (.getfield 18, 3) := by decide +kernel
theorem d_Cores_comesBefore_10 : decode prog_3_method_9_code 10 = .ok (.iload_n 2, 1) := by decide +kernel
theorem d_Cores_comesBefore_11 : decode prog_3_method_9_code 11 = .ok (.iaload, 1) := by decide +kernel
theorem d_Cores_comesBefore_12 : decode prog_3_method_9_code 12 = .ok (.if_icmp .eq 24, 3) := by decide +kernel
theorem d_Cores_comesBefore_15 : decode prog_3_method_9_code 15 = .ok (.aload_n 0, 1) := by decide +kernel
theorem d_Cores_comesBefore_16 : decode prog_3_method_9_code 16 = .ok (.getfield 18, 3) := by decide +kernel
theorem d_Cores_comesBefore_19 : decode prog_3_method_9_code 19 = .ok (.iload_n 1, 1) := by decide +kernel
theorem d_Cores_comesBefore_20 : decode prog_3_method_9_code 20 = .ok (.iaload, 1) := by decide +kernel
theorem d_Cores_comesBefore_21 : decode prog_3_method_9_code 21 = .ok (.aload_n 0, 1) := by decide +kernel
theorem d_Cores_comesBefore_22 : decode prog_3_method_9_code 22 = .ok (.getfield 18, 3) := by decide +kernel
theorem d_Cores_comesBefore_25 : decode prog_3_method_9_code 25 = .ok (.iload_n 2, 1) := by decide +kernel
theorem d_Cores_comesBefore_26 : decode prog_3_method_9_code 26 = .ok (.iaload, 1) := by decide +kernel
theorem d_Cores_comesBefore_27 : decode prog_3_method_9_code 27 = .ok (.if_icmp .le 7, 3) := by decide +kernel
theorem d_Cores_comesBefore_30 : decode prog_3_method_9_code 30 = .ok (.iconst 1, 1) := by decide +kernel
theorem d_Cores_comesBefore_31 : decode prog_3_method_9_code 31 = .ok (.goto 4, 3) := by decide +kernel
theorem d_Cores_comesBefore_34 : decode prog_3_method_9_code 34 = .ok (.iconst 0, 1) := by decide +kernel
theorem d_Cores_comesBefore_35 : decode prog_3_method_9_code 35 = .ok (.ireturn, 1) := by decide +kernel
theorem d_Cores_comesBefore_36 : decode prog_3_method_9_code 36 = .ok (.aload_n 0, 1) := by decide +kernel
theorem d_Cores_comesBefore_37 : decode prog_3_method_9_code 37 = .ok (.getfield 21, 3) := by decide +kernel
theorem d_Cores_comesBefore_40 : decode prog_3_method_9_code 40 = .ok (.iload_n 1, 1) := by decide +kernel
theorem d_Cores_comesBefore_41 : decode prog_3_method_9_code 41 = .ok (.iaload, 1) := by decide +kernel
theorem d_Cores_comesBefore_42 : decode prog_3_method_9_code 42 = .ok (.aload_n 0, 1) := by decide +kernel
theorem d_Cores_comesBefore_43 : decode prog_3_method_9_code 43 = .ok (.getfield 21, 3) := by decide +kernel
theorem d_Cores_comesBefore_46 : decode prog_3_method_9_code 46 = .ok (.iload_n 2, 1) := by decide +kernel
theorem d_Cores_comesBefore_47 : decode prog_3_method_9_code 47 = .ok (.iaload, 1) := by decide +kernel
theorem d_Cores_comesBefore_48 : decode prog_3_method_9_code 48 = .ok (.if_icmp .eq 24, 3) := by decide +kernel
theorem d_Cores_comesBefore_51 : decode prog_3_method_9_code 51 = .ok (.aload_n 0, 1) := by decide +kernel
theorem d_Cores_comesBefore_52 : decode prog_3_method_9_code 52 = .ok (.getfield 21, 3) := by decide +kernel
theorem d_Cores_comesBefore_55 : decode prog_3_method_9_code 55 = .ok (.iload_n 1, 1) := by decide +kernel
theorem d_Cores_comesBefore_56 : decode prog_3_method_9_code 56 = .ok (.iaload, 1) := by decide +kernel
theorem d_Cores_comesBefore_57 : decode prog_3_method_9_code 57 = .ok (.aload_n 0, 1) := by decide +kernel
theorem d_Cores_comesBefore_58 : decode prog_3_method_9_code 58 = .ok (.getfield 21, 3) := by decide +kernel
theorem d_Cores_comesBefore_61 : decode prog_3_method_9_code 61 = .ok (.iload_n 2, 1) := by decide +kernel
theorem d_Cores_comesBefore_62 : decode prog_3_method_9_code 62 = .ok (.iaload, 1) := by decide +kernel
theorem d_Cores_comesBefore_63 : decode prog_3_method_9_code 63 = .ok (.if_icmp .le 7, 3) := by decide +kernel
theorem d_Cores_comesBefore_66 : decode prog_3_method_9_code 66 = .ok (.iconst 1, 1) := by decide +kernel
theorem d_Cores_comesBefore_67 : decode prog_3_method_9_code 67 = .ok (.goto 4, 3) := by decide +kernel
theorem d_Cores_comesBefore_70 : decode prog_3_method_9_code 70 = .ok (.iconst 0, 1) := by decide +kernel
theorem d_Cores_comesBefore_71 : decode prog_3_method_9_code 71 = .ok (.ireturn, 1) := by decide +kernel
theorem d_Cores_comesBefore_72 : decode prog_3_method_9_code 72 = .ok (.iload_n 1, 1) := by decide +kernel
theorem d_Cores_comesBefore_73 : decode prog_3_method_9_code 73 = .ok (.iload_n 2, 1) := by decide +kernel
theorem d_Cores_comesBefore_74 : decode prog_3_method_9_code 74 = .ok (.if_icmp .ge 7, 3) := by decide +kernel
theorem d_Cores_comesBefore_77 : decode prog_3_method_9_code 77 = .ok (.iconst 1, 1) := by decide +kernel
theorem d_Cores_comesBefore_78 : decode prog_3_method_9_code 78 = .ok (.goto 4, 3) := by decide +kernel
theorem d_Cores_comesBefore_81 : decode prog_3_method_9_code 81 = .ok (.iconst 0, 1) := by decide +kernel
theorem d_Cores_comesBefore_82 : decode prog_3_method_9_code 82 = .ok (.ireturn, 1) := by decide +kernel
theorem d_Cores_grantGreatest_0 : decode prog_3_method_10_code 0 = .ok (.aload_n 0, 1) := by decide +kernel
theorem d_Cores_grantGreatest_1 : decode prog_3_method_10_code 1 = .ok (.getfield 15, 3) := by decide +kernel
theorem d_Cores_grantGreatest_4 : decode prog_3_method_10_code 4 = .ok (.iload_n 1, 1) := by decide +kernel
theorem d_Cores_grantGreatest_5 : decode prog_3_method_10_code 5 = .ok (.iaload, 1) := by decide +kernel
theorem d_Cores_grantGreatest_6 : decode prog_3_method_10_code 6 = .ok (.istore 4, 2) := by decide +kernel
theorem d_Cores_grantGreatest_8 : decode prog_3_method_10_code 8 = .ok (.iload 4, 2) := by decide +kernel
theorem d_Cores_grantGreatest_10 : decode prog_3_method_10_code 10 = .ok (.ifCond .le 30, 3) := by decide +kernel
theorem d_Cores_grantGreatest_13 : decode prog_3_method_10_code 13 = .ok (.aload_n 0, 1) := by decide +kernel
theorem d_Cores_grantGreatest_14 : decode prog_3_method_10_code 14 = .ok (.getfield 27, 3) := by decide +kernel
theorem d_Cores_grantGreatest_17 : decode prog_3_method_10_code 17 = .ok (.iload_n 1, 1) := by decide +kernel
theorem d_Cores_grantGreatest_18 : decode prog_3_method_10_code 18 = .ok (.iload 4, 2) := by decide +kernel
theorem d_Cores_grantGreatest_20 : decode prog_3_method_10_code 20 = .ok (.iastore, 1) := by decide +kernel
theorem d_Cores_grantGreatest_21 : decode prog_3_method_10_code 21 = .ok (.aload_n 2, 1) := by decide +kernel
theorem d_Cores_grantGreatest_22 : decode prog_3_method_10_code 22 = .ok (.aload_n 3, 1) := by decide +kernel
theorem d_Cores_grantGreatest_23 : decode prog_3_method_10_code 23 = .ok (.aload_n 0, 1) := by decide +kernel
theorem d_Cores_grantGreatest_24 : decode prog_3_method_10_code 24 = .ok (.getfield 27, 3) := by decide +kernel
theorem d_Cores_grantGreatest_27 : decode prog_3_method_10_code 27 = .ok (.invokevirtual 54, 3) := by decide +kernel
theorem d_Cores_grantGreatest_30 : decode prog_3_method_10_code 30 = .ok (.ifCond .eq 4, 3) := by decide +kernel
theorem d_Cores_grantGreatest_33 : decode prog_3_method_10_code 33 = .ok (.return_, 1) := by decide +kernel
theorem d_Cores_grantGreatest_34 : decode prog_3_method_10_code 34 = .ok (.iinc 4 (-1), 3) := by decide +kernel
theorem d_Cores_grantGreatest_37 : decode prog_3_method_10_code 37 = .ok (.goto (-29), 3) := by decide +kernel
theorem d_Cores_grantGreatest_40 : decode prog_3_method_10_code 40 = .ok (.aload_n 0, 1) := by decide +kernel
theorem d_Cores_grantGreatest_41 : decode prog_3_method_10_code 41 = .ok (.getfield 27, 3) := by decide +kernel
theorem d_Cores_grantGreatest_44 : decode prog_3_method_10_code 44 = .ok (.iload_n 1, 1) := by decide +kernel
theorem d_Cores_grantGreatest_45 : decode prog_3_method_10_code 45 = .ok (.iconst 0, 1) := by decide +kernel
theorem d_Cores_grantGreatest_46 : decode prog_3_method_10_code 46 = .ok (.iastore, 1) := by decide +kernel
theorem d_Cores_grantGreatest_47 : decode prog_3_method_10_code 47 = .ok (.return_, 1) := by decide +kernel
theorem d_Cores_endWishes_0 : decode prog_3_method_11_code 0 = .ok (.iconst 0, 1) := by decide +kernel
theorem d_Cores_endWishes_1 : decode prog_3_method_11_code 1 = .ok (.istore_n 1, 1) := by decide +kernel
theorem d_Cores_endWishes_2 : decode prog_3_method_11_code 2 = .ok (.iconst 0, 1) := by decide +kernel
theorem d_Cores_endWishes_3 : decode prog_3_method_11_code 3 = .ok (.istore_n 2, 1) := by decide +kernel
theorem d_Cores_endWishes_4 : decode prog_3_method_11_code 4 = .ok (.iload_n 2, 1) := by decide +kernel
theorem d_Cores_endWishes_5 : decode prog_3_method_11_code 5 = .ok (.iconst 4, 1) := by decide +kernel
theorem d_Cores_endWishes_6 : decode prog_3_method_11_code 6 = .ok (.if_icmp .ge 57, 3) := by decide +kernel
theorem d_Cores_endWishes_9 : decode prog_3_method_11_code 9 = .ok (.aload_n 0, 1) := by decide +kernel
theorem d_Cores_endWishes_10 : decode prog_3_method_11_code 10 = .ok (.getfield 9, 3) := by decide +kernel
theorem d_Cores_endWishes_13 : decode prog_3_method_11_code 13 = .ok (.iload_n 2, 1) := by decide +kernel
theorem d_Cores_endWishes_14 : decode prog_3_method_11_code 14 = .ok (.iaload, 1) := by decide +kernel
theorem d_Cores_endWishes_15 : decode prog_3_method_11_code 15 = .ok (.aload_n 0, 1) := by decide +kernel
theorem d_Cores_endWishes_16 : decode prog_3_method_11_code 16 = .ok (.getfield 15, 3) := by decide +kernel
theorem d_Cores_endWishes_19 : decode prog_3_method_11_code 19 = .ok (.iload_n 2, 1) := by decide +kernel
theorem d_Cores_endWishes_20 : decode prog_3_method_11_code 20 = .ok (.iaload, 1) := by decide +kernel
theorem d_Cores_endWishes_21 : decode prog_3_method_11_code 21 = .ok (.if_icmp .ge 22, 3) := by decide +kernel
theorem d_Cores_endWishes_24 : decode prog_3_method_11_code 24 = .ok (.iload_n 1, 1) := by decide +kernel
theorem d_Cores_endWishes_25 : decode prog_3_method_11_code 25 = .ok (.iconst 1, 1) := by decide +kernel
theorem d_Cores_endWishes_26 : decode prog_3_method_11_code 26 = .ok (.iload_n 2, 1) := by decide +kernel
theorem d_Cores_endWishes_27 : decode prog_3_method_11_code 27 = .ok (.ishl, 1) := by decide +kernel
theorem d_Cores_endWishes_28 : decode prog_3_method_11_code 28 = .ok (.ior, 1) := by decide +kernel
theorem d_Cores_endWishes_29 : decode prog_3_method_11_code 29 = .ok (.istore_n 1, 1) := by decide +kernel
theorem d_Cores_endWishes_30 : decode prog_3_method_11_code 30 = .ok (.aload_n 0, 1) := by decide +kernel
theorem d_Cores_endWishes_31 : decode prog_3_method_11_code 31 = .ok (.getfield 21, 3) := by decide +kernel
theorem d_Cores_endWishes_34 : decode prog_3_method_11_code 34 = .ok (.iload_n 2, 1) := by decide +kernel
theorem d_Cores_endWishes_35 : decode prog_3_method_11_code 35 = .ok (.dup2, 1) := by decide +kernel
theorem d_Cores_endWishes_36 : decode prog_3_method_11_code 36 = .ok (.iaload, 1) := by decide +kernel
theorem d_Cores_endWishes_37 : decode prog_3_method_11_code 37 = .ok (.iconst 1, 1) := by decide +kernel
theorem d_Cores_endWishes_38 : decode prog_3_method_11_code 38 = .ok (.iadd, 1) := by decide +kernel
theorem d_Cores_endWishes_39 : decode prog_3_method_11_code 39 = .ok (.iastore, 1) := by decide +kernel
theorem d_Cores_endWishes_40 : decode prog_3_method_11_code 40 = .ok (.goto 10, 3) := by decide +kernel
theorem d_Cores_endWishes_43 : decode prog_3_method_11_code 43 = .ok (.aload_n 0, 1) := by decide +kernel
theorem d_Cores_endWishes_44 : decode prog_3_method_11_code 44 = .ok (.getfield 21, 3) := by decide +kernel
theorem d_Cores_endWishes_47 : decode prog_3_method_11_code 47 = .ok (.iload_n 2, 1) := by decide +kernel
theorem d_Cores_endWishes_48 : decode prog_3_method_11_code 48 = .ok (.iconst 0, 1) := by decide +kernel
theorem d_Cores_endWishes_49 : decode prog_3_method_11_code 49 = .ok (.iastore, 1) := by decide +kernel
theorem d_Cores_endWishes_50 : decode prog_3_method_11_code 50 = .ok (.aload_n 0, 1) := by decide +kernel
theorem d_Cores_endWishes_51 : decode prog_3_method_11_code 51 = .ok (.getfield 15, 3) := by decide +kernel
theorem d_Cores_endWishes_54 : decode prog_3_method_11_code 54 = .ok (.iload_n 2, 1) := by decide +kernel
theorem d_Cores_endWishes_55 : decode prog_3_method_11_code 55 = .ok (.iconst (-1), 1) := by decide +kernel
theorem d_Cores_endWishes_56 : decode prog_3_method_11_code 56 = .ok (.iastore, 1) := by decide +kernel
theorem d_Cores_endWishes_57 : decode prog_3_method_11_code 57 = .ok (.iinc 2 1, 3) := by decide +kernel
theorem d_Cores_endWishes_60 : decode prog_3_method_11_code 60 = .ok (.goto (-56), 3) := by decide +kernel
theorem d_Cores_endWishes_63 : decode prog_3_method_11_code 63 = .ok (.iload_n 1, 1) := by decide +kernel
theorem d_Cores_endWishes_64 : decode prog_3_method_11_code 64 = .ok (.ireturn, 1) := by decide +kernel
