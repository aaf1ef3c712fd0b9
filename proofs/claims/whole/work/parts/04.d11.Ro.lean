theorem d_Ro_isPrinted_0 : decode b_Ro_isPrinted 0 = .ok (.iload_n 0, 1) := by decide +kernel
theorem d_Ro_isPrinted_1 : decode b_Ro_isPrinted 1 = .ok (.iconst 1, 1) := by decide +kernel
theorem d_Ro_isPrinted_2 : decode b_Ro_isPrinted 2 = .ok (.if_icmp .eq 18, 3) := by decide +kernel
theorem d_Ro_isPrinted_5 : decode b_Ro_isPrinted 5 = .ok (.iload_n 0, 1) := by decide +kernel
theorem d_Ro_isPrinted_6 : decode b_Ro_isPrinted 6 = .ok (.iconst 2, 1) := by decide +kernel
theorem d_Ro_isPrinted_7 : decode b_Ro_isPrinted 7 = .ok (.if_icmp .eq 13, 3) := by decide +kernel
theorem d_Ro_isPrinted_10 : decode b_Ro_isPrinted 10 = .ok (.iload_n 0, 1) := by decide +kernel
theorem d_Ro_isPrinted_11 : decode b_Ro_isPrinted 11 = .ok (.iconst 3, 1) := by decide +kernel
theorem d_Ro_isPrinted_12 : decode b_Ro_isPrinted 12 = .ok (.if_icmp .eq 8, 3) := by decide +kernel
theorem d_Ro_isPrinted_15 : decode b_Ro_isPrinted 15 = .ok (.iload_n 0, 1) := by decide +kernel
theorem d_Ro_isPrinted_16 : decode b_Ro_isPrinted 16 = .ok (.iconst 5, 1) := by decide +kernel
theorem d_Ro_isPrinted_17 : decode b_Ro_isPrinted 17 = .ok (.if_icmp .ne 7, 3) := by decide +kernel
theorem d_Ro_isPrinted_20 : decode b_Ro_isPrinted 20 = .ok (.iconst 1, 1) := by decide +kernel
theorem d_Ro_isPrinted_21 : decode b_Ro_isPrinted 21 = .ok (.goto 4, 3) := by decide +kernel
theorem d_Ro_isPrinted_24 : decode b_Ro_isPrinted 24 = .ok (.iconst 0, 1) := by decide +kernel
theorem d_Ro_isPrinted_25 : decode b_Ro_isPrinted 25 = .ok (.ireturn, 1) := by decide +kernel
theorem d_Ro_beginRun_0 : decode b_Ro_beginRun 0 = .ok (.aload_n 0, 1) := by decide +kernel
theorem d_Ro_beginRun_1 : decode b_Ro_beginRun 1 = .ok (.getfield 9, 3) := by decide +kernel
theorem d_Ro_beginRun_4 : decode b_Ro_beginRun 4 = .ok (.iconst 4, 1) := by decide +kernel
theorem d_Ro_beginRun_5 : decode b_Ro_beginRun 5 = .ok (.iload_n 1, 1) := by decide +kernel
theorem d_Ro_beginRun_6 : decode b_Ro_beginRun 6 = .ok (.imul, 1) := by decide +kernel
theorem d_Ro_beginRun_7 : decode b_Ro_beginRun 7 = .ok (.iload_n 2, 1) := by decide +kernel
theorem d_Ro_beginRun_8 : decode b_Ro_beginRun 8 = .ok (.iastore, 1) := by decide +kernel
theorem d_Ro_beginRun_9 : decode b_Ro_beginRun 9 = .ok (.aload_n 0, 1) := by decide +kernel
theorem d_Ro_beginRun_10 : decode b_Ro_beginRun 10 = .ok (.getfield 9, 3) := by decide +kernel
theorem d_Ro_beginRun_13 : decode b_Ro_beginRun 13 = .ok (.iconst 4, 1) := by decide +kernel
theorem d_Ro_beginRun_14 : decode b_Ro_beginRun 14 = .ok (.iload_n 1, 1) := by decide +kernel
theorem d_Ro_beginRun_15 : decode b_Ro_beginRun 15 = .ok (.imul, 1) := by decide +kernel
theorem d_Ro_beginRun_16 : decode b_Ro_beginRun 16 = .ok (.iconst 1, 1) := by decide +kernel
theorem d_Ro_beginRun_17 : decode b_Ro_beginRun 17 = .ok (.iadd, 1) := by decide +kernel
theorem d_Ro_beginRun_18 : decode b_Ro_beginRun 18 = .ok (.iload_n 3, 1) := by decide +kernel
theorem d_Ro_beginRun_19 : decode b_Ro_beginRun 19 = .ok (.iastore, 1) := by decide +kernel
theorem d_Ro_beginRun_20 : decode b_Ro_beginRun 20 = .ok (.aload_n 0, 1) := by decide +kernel
theorem d_Ro_beginRun_21 : decode b_Ro_beginRun 21 = .ok (.getfield 9, 3) := by decide +kernel
theorem d_Ro_beginRun_24 : decode b_Ro_beginRun 24 = .ok (.iconst 4, 1) := by decide +kernel
theorem d_Ro_beginRun_25 : decode b_Ro_beginRun 25 = .ok (.iload_n 1, 1) := by decide +kernel
theorem d_Ro_beginRun_26 : decode b_Ro_beginRun 26 = .ok (.imul, 1) := by decide +kernel
theorem d_Ro_beginRun_27 : decode b_Ro_beginRun 27 = .ok (.iconst 2, 1) := by decide +kernel
theorem d_Ro_beginRun_28 : decode b_Ro_beginRun 28 = .ok (.iadd, 1) := by decide +kernel
theorem d_Ro_beginRun_29 : decode b_Ro_beginRun 29 = .ok (.iload 4, 2) := by decide +kernel
theorem d_Ro_beginRun_31 : decode b_Ro_beginRun 31 = .ok (.iastore, 1) := by decide +kernel
theorem d_Ro_beginRun_32 : decode b_Ro_beginRun 32 = .ok (.aload_n 0, 1) := by decide +kernel
theorem d_Ro_beginRun_33 : decode b_Ro_beginRun 33 = .ok (.getfield 9, 3) := by decide +kernel
theorem d_Ro_beginRun_36 : decode b_Ro_beginRun 36 = .ok (.iconst 4, 1) := by decide +kernel
theorem d_Ro_beginRun_37 : decode b_Ro_beginRun 37 = .ok (.iload_n 1, 1) := by decide +kernel
theorem d_Ro_beginRun_38 : decode b_Ro_beginRun 38 = .ok (.imul, 1) := by decide +kernel
theorem d_Ro_beginRun_39 : decode b_Ro_beginRun 39 = .ok (.iconst 3, 1) := by decide +kernel
theorem d_Ro_beginRun_40 : decode b_Ro_beginRun 40 = .ok (.iadd, 1) := by decide +kernel
theorem d_Ro_beginRun_41 : decode b_Ro_beginRun 41 = .ok (.iconst 0, 1) := by decide +kernel
theorem d_Ro_beginRun_42 : decode b_Ro_beginRun 42 = .ok (.iastore, 1) := by decide +kernel
theorem d_Ro_beginRun_43 : decode b_Ro_beginRun 43 = .ok (.return_, 1) := by decide +kernel
theorem d_Ro_findRuns_0 : decode b_Ro_findRuns 0 = .ok (.iconst 0, 1) := by decide +kernel
theorem d_Ro_findRuns_1 : decode b_Ro_findRuns 1 = .ok (.istore_n 3, 1) := by decide +kernel
theorem d_Ro_findRuns_2 : decode b_Ro_findRuns 2 = .ok (.iconst 0, 1) := by decide +kernel
theorem d_Ro_findRuns_3 : decode b_Ro_findRuns 3 = .ok (.istore 4, 2) := by decide +kernel
theorem d_Ro_findRuns_5 : decode b_Ro_findRuns 5 = .ok (.iload 4, 2) := by decide +kernel
theorem d_Ro_findRuns_7 : decode b_Ro_findRuns 7 = .ok (.bipush 12, 2) := by decide +kernel
theorem d_Ro_findRuns_9 : decode b_Ro_findRuns 9 = .ok (.if_icmp .ge 86, 3) := by decide +kernel
theorem d_Ro_findRuns_12 : decode b_Ro_findRuns 12 = .ok (.iconst 0, 1) := by decide +kernel
theorem d_Ro_findRuns_13 : decode b_Ro_findRuns 13 = .ok (.istore 5, 2) := by decide +kernel
theorem d_Ro_findRuns_15 : decode b_Ro_findRuns 15 = .ok (.iconst 0, 1) := by decide +kernel
theorem d_Ro_findRuns_16 : decode b_Ro_findRuns 16 = .ok (.istore 6, 2) := by decide +kernel
theorem d_Ro_findRuns_18 : decode b_Ro_findRuns 18 = .ok (.iload 6, 2) := by decide +kernel
theorem d_Ro_findRuns_20 : decode b_Ro_findRuns 20 = .ok (.bipush 12, 2) := by decide +kernel
theorem d_Ro_findRuns_22 : decode b_Ro_findRuns 22 = .ok (.if_icmp .ge 67, 3) := by decide +kernel
theorem d_Ro_findRuns_25 : decode b_Ro_findRuns 25 = .ok (.aload_n 1, 1) := by decide +kernel
theorem d_Ro_findRuns_26 : decode b_Ro_findRuns 26 = .ok (.iload_n 2, 1) := by decide +kernel
theorem d_Ro_findRuns_27 : decode b_Ro_findRuns 27 = .ok (.iload 6, 2) := by decide +kernel
theorem d_Ro_findRuns_29 : decode b_Ro_findRuns 29 = .ok (.iload 4, 2) := by decide +kernel
theorem d_Ro_findRuns_31 : decode b_Ro_findRuns 31 = .ok (.invokevirtual 15, 3) := by decide +kernel
theorem d_Ro_findRuns_34 : decode b_Ro_findRuns 34 = .ok (.istore 7, 2) := by decide +kernel
theorem d_Ro_findRuns_36 : decode b_Ro_findRuns 36 = .ok (.iload 7, 2) := by decide +kernel
theorem d_Ro_findRuns_38 : decode b_Ro_findRuns 38 = .ok (.invokestatic 21, 3) := by decide +kernel
theorem d_Ro_findRuns_41 : decode b_Ro_findRuns 41 = .ok (.ifCond .eq 38, 3) := by decide +kernel
theorem d_Ro_findRuns_44 : decode b_Ro_findRuns 44 = .ok (.iload 7, 2) := by decide +kernel
theorem d_Ro_findRuns_46 : decode b_Ro_findRuns 46 = .ok (.iload 5, 2) := by decide +kernel
theorem d_Ro_findRuns_48 : decode b_Ro_findRuns 48 = .ok (.if_icmp .eq 17, 3) := by decide +kernel
theorem d_Ro_findRuns_51 : decode b_Ro_findRuns 51 = .ok (.aload_n 0, 1) := by decide +kernel
theorem d_Ro_findRuns_52 : decode b_Ro_findRuns 52 = .ok (.iload_n 3, 1) := by decide +kernel
theorem d_Ro_findRuns_53 : decode b_Ro_findRuns 53 = .ok (.iload 7, 2) := by decide +kernel
theorem d_Ro_findRuns_55 : decode b_Ro_findRuns 55 = .ok (.iload 6, 2) := by decide +kernel
theorem d_Ro_findRuns_57 : decode b_Ro_findRuns 57 = .ok (.iload 4, 2) := by decide +kernel
theorem d_Ro_findRuns_59 : decode b_Ro_findRuns 59 = .ok (.invokevirtual 25, 3) := by decide +kernel
theorem d_Ro_findRuns_62 : decode b_Ro_findRuns 62 = .ok (.iinc 3 1, 3) := by decide +kernel
theorem d_Ro_findRuns_65 : decode b_Ro_findRuns 65 = .ok (.aload_n 0, 1) := by decide +kernel
theorem d_Ro_findRuns_66 : decode b_Ro_findRuns 66 = .ok (.getfield 9, 3) := by decide +kernel
theorem d_Ro_findRuns_69 : decode b_Ro_findRuns 69 = .ok (.iconst 4, 1) := by decide +kernel
theorem d_Ro_findRuns_70 : decode b_Ro_findRuns 70 = .ok (.iload_n 3, 1) := by decide +kernel
theorem d_Ro_findRuns_71 : decode b_Ro_findRuns 71 = .ok (.imul, 1) := by decide +kernel
theorem d_Ro_findRuns_72 : decode b_Ro_findRuns 72 = .ok (.iconst 1, 1) := by decide +kernel
theorem d_Ro_findRuns_73 : decode b_Ro_findRuns 73 = .ok (.isub, 1) := by decide +kernel
theorem d_Ro_findRuns_74 : decode b_Ro_findRuns 74 = .ok (.dup2, 1) := by decide +kernel
theorem d_Ro_findRuns_75 : decode b_Ro_findRuns 75 = .ok (.iaload, 1) := by decide +kernel
theorem d_Ro_findRuns_76 : decode b_Ro_findRuns 76 = .ok (.iconst 1, 1) := by decide +kernel
theorem d_Ro_findRuns_77 : decode b_Ro_findRuns 77 = .ok (.iadd, 1) := by decide +kernel
theorem d_Ro_findRuns_78 : decode b_Ro_findRuns 78 = .ok (.iastore, 1) := by decide +kernel
theorem d_Ro_findRuns_79 : decode b_Ro_findRuns 79 = .ok (.iload 7, 2) := by decide +kernel
theorem d_Ro_findRuns_81 : decode b_Ro_findRuns 81 = .ok (.istore 5, 2) := by decide +kernel
theorem d_Ro_findRuns_83 : decode b_Ro_findRuns 83 = .ok (.iinc 6 1, 3) := by decide +kernel
theorem d_Ro_findRuns_86 : decode b_Ro_findRuns 86 = .ok (.goto (-68), 3) := by decide +kernel
theorem d_Ro_findRuns_89 : decode b_Ro_findRuns 89 = .ok (.iinc 4 1, 3) := by decide +kernel
theorem d_Ro_findRuns_92 : decode b_Ro_findRuns 92 = .ok (.goto (-87), 3) := by decide +kernel
theorem d_Ro_findRuns_95 : decode b_Ro_findRuns 95 = .ok (.iload_n 3, 1) := by decide +kernel
theorem d_Ro_findRuns_96 : decode b_Ro_findRuns 96 = .ok (.ireturn, 1) := by decide +kernel
theorem d_Ro_init_0 : decode b_Ro_init 0 = .ok (.aload_n 0, 1) := by decide +kernel
theorem d_Ro_init_1 : decode b_Ro_init 1 = .ok (.invokespecial 3, 3) := by decide +kernel
theorem d_Ro_init_4 : decode b_Ro_init 4 = .ok (.aload_n 0, 1) := by decide +kernel
theorem d_Ro_init_5 : decode b_Ro_init 5 = .ok (.sipush 576, 3) := by decide +kernel
theorem d_Ro_init_8 : decode b_Ro_init 8 = .ok (.newarray .int, 2) := by decide +kernel
theorem d_Ro_init_10 : decode b_Ro_init 10 = .ok (.putfield 9, 3) := by decide +kernel
theorem d_Ro_init_13 : decode b_Ro_init 13 = .ok (.return_, 1) := by decide +kernel
