theorem d_Outlook_init_0 : decode prog_5_method_1_code 0 = .ok (.aload_n 0, 1) := by decide +kernel
theorem d_Outlook_init_1 : decode prog_5_method_1_code 1 = .ok (.invokespecial 3, 3) := by decide +kernel
theorem d_Outlook_init_4 : decode prog_5_method_1_code 4 = .ok (.aload_n 0, 1) := by decide +kernel
theorem d_Outlook_init_5 : decode prog_5_method_1_code 5 = .ok (.bipush 7, 2) := by decide +kernel
theorem d_Outlook_init_7 : decode prog_5_method_1_code 7 = .ok (.newarray .int, 2) := by decide +kernel
theorem d_Outlook_init_9 : decode prog_5_method_1_code 9 = .ok (.putfield 9, 3) := by decide +kernel
theorem d_Outlook_init_12 : decode prog_5_method_1_code 12 = .ok (.aload_n 0, 1) := by decide +kernel
theorem d_Outlook_init_13 : decode prog_5_method_1_code 13 = .ok (.iconst 4, 1) := by decide +kernel
theorem d_Outlook_init_14 : decode prog_5_method_1_code 14 = .ok (.newarray .int, 2) := by decide +kernel
theorem d_Outlook_init_16 : decode prog_5_method_1_code 16 = .ok (.putfield 15, 3) := by decide +kernel
theorem d_Outlook_init_19 : decode prog_5_method_1_code 19 = .ok (.aload_n 0, 1) := by decide +kernel
theorem d_Outlook_init_20 : decode prog_5_method_1_code 20 = .ok (.aload_n 1, 1) := by decide +kernel
theorem d_Outlook_init_21 : decode prog_5_method_1_code 21 = .ok (.putfield 18, 3) := by decide +kernel
theorem d_Outlook_init_24 : decode prog_5_method_1_code 24 = .ok (.return_, 1) := by decide +kernel
theorem d_Outlook_isSafe_0 : decode prog_5_method_2_code 0 = .ok (.aload_n 1, 1) := by decide +kernel
theorem d_Outlook_isSafe_1 : decode prog_5_method_2_code 1 = .ok (.iconst 0, 1) := by decide +kernel
theorem d_Outlook_isSafe_2 : decode prog_5_method_2_code 2 = .ok (.aload_n 0, 1) := by decide +kernel
theorem d_Outlook_isSafe_3 : decode prog_5_method_2_code 3 = .ok (.getfield 9, 3) := by decide +kernel
theorem d_Outlook_isSafe_6 : decode prog_5_method_2_code 6 = .ok (.iconst 0, 1) := by decide +kernel
theorem d_Outlook_isSafe_7 : decode prog_5_method_2_code 7 = .ok (.bipush 7, 2) := by decide +kernel
theorem d_Outlook_isSafe_9 : decode prog_5_method_2_code 9 = .ok (.invokestatic 22, 3) := by decide +kernel
theorem d_Outlook_isSafe_12 : decode prog_5_method_2_code 12 = .ok (.aload_n 0, 1) := by decide +kernel
theorem d_Outlook_isSafe_13 : decode prog_5_method_2_code 13 = .ok (.getfield 18, 3) := by decide +kernel
theorem d_Outlook_isSafe_16 : decode prog_5_method_2_code 16 = .ok (.aload_n 0, 1) := by decide +kernel
theorem d_Outlook_isSafe_17 : decode prog_5_method_2_code 17 = .ok (.getfield 9, 3) := by decide +kernel
theorem d_Outlook_isSafe_20 : decode prog_5_method_2_code 20 = .ok (.invokevirtual 28, 3) := by decide +kernel
theorem d_Outlook_isSafe_23 : decode prog_5_method_2_code 23 = .ok (.istore_n 3, 1) := by decide +kernel
theorem d_Outlook_isSafe_24 : decode prog_5_method_2_code 24 = .ok (.iconst 0, 1) := by decide +kernel
theorem d_Outlook_isSafe_25 : decode prog_5_method_2_code 25 = .ok (.istore 4, 2) := by decide +kernel
theorem d_Outlook_isSafe_27 : decode prog_5_method_2_code 27 = .ok (.iload 4, 2) := by decide +kernel
theorem d_Outlook_isSafe_29 : decode prog_5_method_2_code 29 = .ok (.bipush 8, 2) := by decide +kernel
theorem d_Outlook_isSafe_31 : decode prog_5_method_2_code 31 = .ok (.if_icmp .ge 38, 3) := by decide +kernel
theorem d_Outlook_isSafe_34 : decode prog_5_method_2_code 34 = .ok (.iload_n 3, 1) := by decide +kernel
theorem d_Outlook_isSafe_35 : decode prog_5_method_2_code 35 = .ok (.ifCond .eq 34, 3) := by decide +kernel
theorem d_Outlook_isSafe_38 : decode prog_5_method_2_code 38 = .ok (.aload_n 0, 1) := by decide +kernel
theorem d_Outlook_isSafe_39 : decode prog_5_method_2_code 39 = .ok (.getfield 18, 3) := by decide +kernel
theorem d_Outlook_isSafe_42 : decode prog_5_method_2_code 42 = .ok (.aload_n 0, 1) := by decide +kernel
theorem d_Outlook_isSafe_43 : decode prog_5_method_2_code 43 = .ok (.getfield 9, 3) := by decide +kernel
theorem d_Outlook_isSafe_46 : decode prog_5_method_2_code 46 = .ok (.aload_n 2, 1) := by decide +kernel
theorem d_Outlook_isSafe_47 : decode prog_5_method_2_code 47 = .ok (.invokevirtual 34, 3) := by decide +kernel
theorem d_Outlook_isSafe_50 : decode prog_5_method_2_code 50 = .ok (.pop, 1) := by decide +kernel
theorem d_Outlook_isSafe_51 : decode prog_5_method_2_code 51 = .ok (.aload_n 0, 1) := by decide +kernel
theorem d_Outlook_isSafe_52 : decode prog_5_method_2_code 52 = .ok (.getfield 18, 3) := by decide +kernel
theorem d_Outlook_isSafe_55 : decode prog_5_method_2_code 55 = .ok (.aload_n 0, 1) := by decide +kernel
theorem d_Outlook_isSafe_56 : decode prog_5_method_2_code 56 = .ok (.getfield 9, 3) := by decide +kernel
theorem d_Outlook_isSafe_59 : decode prog_5_method_2_code 59 = .ok (.invokevirtual 28, 3) := by decide +kernel
theorem d_Outlook_isSafe_62 : decode prog_5_method_2_code 62 = .ok (.istore_n 3, 1) := by decide +kernel
theorem d_Outlook_isSafe_63 : decode prog_5_method_2_code 63 = .ok (.iinc 4 1, 3) := by decide +kernel
theorem d_Outlook_isSafe_66 : decode prog_5_method_2_code 66 = .ok (.goto (-39), 3) := by decide +kernel
theorem d_Outlook_isSafe_69 : decode prog_5_method_2_code 69 = .ok (.iconst 1, 1) := by decide +kernel
theorem d_Outlook_isSafe_70 : decode prog_5_method_2_code 70 = .ok (.istore 4, 2) := by decide +kernel
theorem d_Outlook_isSafe_72 : decode prog_5_method_2_code 72 = .ok (.iconst 0, 1) := by decide +kernel
theorem d_Outlook_isSafe_73 : decode prog_5_method_2_code 73 = .ok (.istore 5, 2) := by decide +kernel
theorem d_Outlook_isSafe_75 : decode prog_5_method_2_code 75 = .ok (.iload 5, 2) := by decide +kernel
theorem d_Outlook_isSafe_77 : decode prog_5_method_2_code 77 = .ok (.sipush 250, 3) := by decide +kernel
theorem d_Outlook_isSafe_80 : decode prog_5_method_2_code 80 = .ok (.if_icmp .ge 47, 3) := by decide +kernel
theorem d_Outlook_isSafe_83 : decode prog_5_method_2_code 83 = .ok (.iload_n 3, 1) := by decide +kernel
theorem d_Outlook_isSafe_84 : decode prog_5_method_2_code 84 = .ok (.ifCond .eq 43, 3) := by decide +kernel
theorem d_Outlook_isSafe_87 : decode prog_5_method_2_code 87 = .ok (.iload 4, 2) := by decide +kernel
theorem d_Outlook_isSafe_89 : decode prog_5_method_2_code 89 = .ok (.ifCond .eq 38, 3) := by decide +kernel
theorem d_Outlook_isSafe_92 : decode prog_5_method_2_code 92 = .ok (.aload_n 0, 1) := by decide +kernel
theorem d_Outlook_isSafe_93 : decode prog_5_method_2_code 93 = .ok (.getfield 18, 3) := by decide +kernel
theorem d_Outlook_isSafe_96 : decode prog_5_method_2_code 96 = .ok (.aload_n 0, 1) := by decide +kernel
theorem d_Outlook_isSafe_97 : decode prog_5_method_2_code 97 = .ok (.getfield 9, 3) := by decide +kernel
theorem d_Outlook_isSafe_100 : decode prog_5_method_2_code 100 = .ok (.aload_n 0, 1) := by decide +kernel
theorem d_Outlook_isSafe_101 : decode prog_5_method_2_code 101 = .ok (.getfield 15, 3) := by decide +kernel
theorem d_Outlook_isSafe_104 : decode prog_5_method_2_code 104 = .ok (.invokevirtual 34, 3) := by decide +kernel
theorem d_Outlook_isSafe_107 : decode prog_5_method_2_code 107 = .ok (.istore 4, 2) := by decide +kernel
theorem d_Outlook_isSafe_109 : decode prog_5_method_2_code 109 = .ok (.aload_n 0, 1) := by decide +kernel
theorem d_Outlook_isSafe_110 : decode prog_5_method_2_code 110 = .ok (.getfield 18, 3) := by decide +kernel
theorem d_Outlook_isSafe_113 : decode prog_5_method_2_code 113 = .ok (.aload_n 0, 1) := by decide +kernel
theorem d_Outlook_isSafe_114 : decode prog_5_method_2_code 114 = .ok (.getfield 9, 3) := by decide +kernel
theorem d_Outlook_isSafe_117 : decode prog_5_method_2_code 117 = .ok (.invokevirtual 28, 3) := by decide +kernel
theorem d_Outlook_isSafe_120 : decode prog_5_method_2_code 120 = .ok (.istore_n 3, 1) := by decide +kernel
theorem d_Outlook_isSafe_121 : decode prog_5_method_2_code 121 = .ok (.iinc 5 1, 3) := by decide +kernel
theorem d_Outlook_isSafe_124 : decode prog_5_method_2_code 124 = .ok (.goto (-49), 3) := by decide +kernel
theorem d_Outlook_isSafe_127 : decode prog_5_method_2_code 127 = .ok (.iload_n 3, 1) := by decide +kernel
theorem d_Outlook_isSafe_128 : decode prog_5_method_2_code 128 = .ok (.ifCond .eq 12, 3) := by decide +kernel
theorem d_Outlook_isSafe_131 : decode prog_5_method_2_code 131 = .ok (.iload 4, 2) := by decide +kernel
theorem d_Outlook_isSafe_133 : decode prog_5_method_2_code 133 = .ok (.ifCond .ne 7, 3) := by decide +kernel
theorem d_Outlook_isSafe_136 : decode prog_5_method_2_code 136 = .ok (.iconst 1, 1) := by decide +kernel
theorem d_Outlook_isSafe_137 : decode prog_5_method_2_code 137 = .ok (.goto 4, 3) := by decide +kernel
theorem d_Outlook_isSafe_140 : decode prog_5_method_2_code 140 = .ok (.iconst 0, 1) := by decide +kernel
theorem d_Outlook_isSafe_141 : decode prog_5_method_2_code 141 = .ok (.ireturn, 1) := by decide +kernel
