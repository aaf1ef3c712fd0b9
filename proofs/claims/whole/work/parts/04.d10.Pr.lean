theorem d_Pr_clear_0 : decode b_Pr_clear 0 = .ok (.aload_n 0, 1) := by decide +kernel
theorem d_Pr_clear_1 : decode b_Pr_clear 1 = .ok (.iconst 0, 1) := by decide +kernel
theorem d_Pr_clear_2 : decode b_Pr_clear 2 = .ok (.putfield 22, 3) := by decide +kernel
theorem d_Pr_clear_5 : decode b_Pr_clear 5 = .ok (.aload_n 0, 1) := by decide +kernel
theorem d_Pr_clear_6 : decode b_Pr_clear 6 = .ok (.iconst 0, 1) := by decide +kernel
theorem d_Pr_clear_7 : decode b_Pr_clear 7 = .ok (.putfield 25, 3) := by decide +kernel
theorem d_Pr_clear_10 : decode b_Pr_clear 10 = .ok (.aload_n 0, 1) := by decide +kernel
theorem d_Pr_clear_11 : decode b_Pr_clear 11 = .ok (.iconst (-1), 1) := by decide +kernel
theorem d_Pr_clear_12 : decode b_Pr_clear 12 = .ok (.putfield 18, 3) := by decide +kernel
theorem d_Pr_clear_15 : decode b_Pr_clear 15 = .ok (.aload_n 0, 1) := by decide +kernel
theorem d_Pr_clear_16 : decode b_Pr_clear 16 = .ok (.getfield 15, 3) := by decide +kernel
theorem d_Pr_clear_19 : decode b_Pr_clear 19 = .ok (.iconst 0, 1) := by decide +kernel
theorem d_Pr_clear_20 : decode b_Pr_clear 20 = .ok (.invokestatic 28, 3) := by decide +kernel
theorem d_Pr_clear_23 : decode b_Pr_clear 23 = .ok (.return_, 1) := by decide +kernel
theorem d_Pr_addByte_0 : decode b_Pr_addByte 0 = .ok (.aload_n 0, 1) := by decide +kernel
theorem d_Pr_addByte_1 : decode b_Pr_addByte 1 = .ok (.getfield 9, 3) := by decide +kernel
theorem d_Pr_addByte_4 : decode b_Pr_addByte 4 = .ok (.aload_n 0, 1) := by decide +kernel
theorem d_Pr_addByte_5 : decode b_Pr_addByte 5 = .ok (.getfield 22, 3) := by decide +kernel
theorem d_Pr_addByte_8 : decode b_Pr_addByte 8 = .ok (.iload_n 1, 1) := by decide +kernel
theorem d_Pr_addByte_9 : decode b_Pr_addByte 9 = .ok (.iastore, 1) := by decide +kernel
theorem d_Pr_addByte_10 : decode b_Pr_addByte 10 = .ok (.aload_n 0, 1) := by decide +kernel
theorem d_Pr_addByte_11 : decode b_Pr_addByte 11 = .ok (.dup, 1) := by decide +kernel
theorem d_Pr_addByte_12 : decode b_Pr_addByte 12 = .ok (.getfield 22, 3) := by decide +kernel
theorem d_Pr_addByte_15 : decode b_Pr_addByte 15 = .ok (.iconst 1, 1) := by decide +kernel
theorem d_Pr_addByte_16 : decode b_Pr_addByte 16 = .ok (.iadd, 1) := by decide +kernel
theorem d_Pr_addByte_17 : decode b_Pr_addByte 17 = .ok (.putfield 22, 3) := by decide +kernel
theorem d_Pr_addByte_20 : decode b_Pr_addByte 20 = .ok (.return_, 1) := by decide +kernel
theorem d_Pr_addLayer_0 : decode b_Pr_addLayer 0 = .ok (.aload_n 0, 1) := by decide +kernel
theorem d_Pr_addLayer_1 : decode b_Pr_addLayer 1 = .ok (.sipush 200, 3) := by decide +kernel
theorem d_Pr_addLayer_4 : decode b_Pr_addLayer 4 = .ok (.invokevirtual 34, 3) := by decide +kernel
theorem d_Pr_addLayer_7 : decode b_Pr_addLayer 7 = .ok (.iconst 0, 1) := by decide +kernel
theorem d_Pr_addLayer_8 : decode b_Pr_addLayer 8 = .ok (.istore_n 3, 1) := by decide +kernel
theorem d_Pr_addLayer_9 : decode b_Pr_addLayer 9 = .ok (.iload_n 3, 1) := by decide +kernel
theorem d_Pr_addLayer_10 : decode b_Pr_addLayer 10 = .ok (.iload_n 2, 1) := by decide +kernel
theorem d_Pr_addLayer_11 : decode b_Pr_addLayer 11 = .ok (.if_icmp .ge 70, 3) := by decide +kernel
theorem d_Pr_addLayer_14 : decode b_Pr_addLayer 14 = .ok (.aload_n 0, 1) := by decide +kernel
theorem d_Pr_addLayer_15 : decode b_Pr_addLayer 15 = .ok (.sipush 201, 3) := by decide +kernel
theorem d_Pr_addLayer_18 : decode b_Pr_addLayer 18 = .ok (.invokevirtual 34, 3) := by decide +kernel
theorem d_Pr_addLayer_21 : decode b_Pr_addLayer 21 = .ok (.aload_n 0, 1) := by decide +kernel
theorem d_Pr_addLayer_22 : decode b_Pr_addLayer 22 = .ok (.aload_n 1, 1) := by decide +kernel
theorem d_Pr_addLayer_23 : decode b_Pr_addLayer 23 = .ok (.getfield 38, 3) := by decide +kernel
theorem d_Pr_addLayer_26 : decode b_Pr_addLayer 26 = .ok (.iconst 4, 1) := by decide +kernel
theorem d_Pr_addLayer_27 : decode b_Pr_addLayer 27 = .ok (.iload_n 3, 1) := by decide +kernel
theorem d_Pr_addLayer_28 : decode b_Pr_addLayer 28 = .ok (.imul, 1) := by decide +kernel
theorem d_Pr_addLayer_29 : decode b_Pr_addLayer 29 = .ok (.iconst 1, 1) := by decide +kernel
theorem d_Pr_addLayer_30 : decode b_Pr_addLayer 30 = .ok (.iadd, 1) := by decide +kernel
theorem d_Pr_addLayer_31 : decode b_Pr_addLayer 31 = .ok (.iaload, 1) := by decide +kernel
theorem d_Pr_addLayer_32 : decode b_Pr_addLayer 32 = .ok (.invokevirtual 34, 3) := by decide +kernel
theorem d_Pr_addLayer_35 : decode b_Pr_addLayer 35 = .ok (.aload_n 0, 1) := by decide +kernel
theorem d_Pr_addLayer_36 : decode b_Pr_addLayer 36 = .ok (.aload_n 1, 1) := by decide +kernel
theorem d_Pr_addLayer_37 : decode b_Pr_addLayer 37 = .ok (.getfield 38, 3) := by decide +kernel
theorem d_Pr_addLayer_40 : decode b_Pr_addLayer 40 = .ok (.iconst 4, 1) := by decide +kernel
theorem d_Pr_addLayer_41 : decode b_Pr_addLayer 41 = .ok (.iload_n 3, 1) := by decide +kernel
theorem d_Pr_addLayer_42 : decode b_Pr_addLayer 42 = .ok (.imul, 1) := by decide +kernel
theorem d_Pr_addLayer_43 : decode b_Pr_addLayer 43 = .ok (.iconst 2, 1) := by decide +kernel
theorem d_Pr_addLayer_44 : decode b_Pr_addLayer 44 = .ok (.iadd, 1) := by decide +kernel
theorem d_Pr_addLayer_45 : decode b_Pr_addLayer 45 = .ok (.iaload, 1) := by decide +kernel
theorem d_Pr_addLayer_46 : decode b_Pr_addLayer 46 = .ok (.invokevirtual 34, 3) := by decide +kernel
theorem d_Pr_addLayer_49 : decode b_Pr_addLayer 49 = .ok (.aload_n 0, 1) := by decide +kernel
theorem d_Pr_addLayer_50 : decode b_Pr_addLayer 50 = .ok (.aload_n 1, 1) := by decide +kernel
theorem d_Pr_addLayer_51 : decode b_Pr_addLayer 51 = .ok (.getfield 38, 3) := by decide +kernel
theorem d_Pr_addLayer_54 : decode b_Pr_addLayer 54 = .ok (.iconst 4, 1) := by decide +kernel
theorem d_Pr_addLayer_55 : decode b_Pr_addLayer 55 = .ok (.iload_n 3, 1) := by decide +kernel
theorem d_Pr_addLayer_56 : decode b_Pr_addLayer 56 = .ok (.imul, 1) := by decide +kernel
theorem d_Pr_addLayer_57 : decode b_Pr_addLayer 57 = .ok (.iaload, 1) := by decide +kernel
theorem d_Pr_addLayer_58 : decode b_Pr_addLayer 58 = .ok (.invokevirtual 34, 3) := by decide +kernel
theorem d_Pr_addLayer_61 : decode b_Pr_addLayer 61 = .ok (.aload_n 0, 1) := by decide +kernel
theorem d_Pr_addLayer_62 : decode b_Pr_addLayer 62 = .ok (.aload_n 1, 1) := by decide +kernel
theorem d_Pr_addLayer_63 : decode b_Pr_addLayer 63 = .ok (.getfield 38, 3) := by decide +kernel
theorem d_Pr_addLayer_66 : decode b_Pr_addLayer 66 = .ok (.iconst 4, 1) := by decide +kernel
theorem d_Pr_addLayer_67 : decode b_Pr_addLayer 67 = .ok (.iload_n 3, 1) := by decide +kernel
theorem d_Pr_addLayer_68 : decode b_Pr_addLayer 68 = .ok (.imul, 1) := by decide +kernel
theorem d_Pr_addLayer_69 : decode b_Pr_addLayer 69 = .ok (.iconst 3, 1) := by decide +kernel
theorem d_Pr_addLayer_70 : decode b_Pr_addLayer 70 = .ok (.iadd, 1) := by decide +kernel
theorem d_Pr_addLayer_71 : decode b_Pr_addLayer 71 = .ok (.iaload, 1) := by decide +kernel
theorem d_Pr_addLayer_72 : decode b_Pr_addLayer 72 = .ok (.invokevirtual 34, 3) := by decide +kernel
theorem d_Pr_addLayer_75 : decode b_Pr_addLayer 75 = .ok (.iinc 3 1, 3) := by decide +kernel
theorem d_Pr_addLayer_78 : decode b_Pr_addLayer 78 = .ok (.goto (-69), 3) := by decide +kernel
theorem d_Pr_addLayer_81 : decode b_Pr_addLayer 81 = .ok (.return_, 1) := by decide +kernel
theorem d_Pr_layRun_0 : decode b_Pr_layRun 0 = .ok (.iconst 0, 1) := by decide +kernel
theorem d_Pr_layRun_1 : decode b_Pr_layRun 1 = .ok (.istore 4, 2) := by decide +kernel
theorem d_Pr_layRun_3 : decode b_Pr_layRun 3 = .ok (.iload 4, 2) := by decide +kernel
theorem d_Pr_layRun_5 : decode b_Pr_layRun 5 = .ok (.iload_n 3, 1) := by decide +kernel
theorem d_Pr_layRun_6 : decode b_Pr_layRun 6 = .ok (.if_icmp .ge 30, 3) := by decide +kernel
theorem d_Pr_layRun_9 : decode b_Pr_layRun 9 = .ok (.aload_n 0, 1) := by decide +kernel
theorem d_Pr_layRun_10 : decode b_Pr_layRun 10 = .ok (.getfield 15, 3) := by decide +kernel
theorem d_Pr_layRun_13 : decode b_Pr_layRun 13 = .ok (.aload_n 0, 1) := by decide +kernel
theorem d_Pr_layRun_14 : decode b_Pr_layRun 14 = .ok (.getfield 18, 3) := by decide +kernel
theorem d_Pr_layRun_17 : decode b_Pr_layRun 17 = .ok (.iload_n 1, 1) := by decide +kernel
theorem d_Pr_layRun_18 : decode b_Pr_layRun 18 = .ok (.iload 4, 2) := by decide +kernel
theorem d_Pr_layRun_20 : decode b_Pr_layRun 20 = .ok (.iadd, 1) := by decide +kernel
theorem d_Pr_layRun_21 : decode b_Pr_layRun 21 = .ok (.iload_n 2, 1) := by decide +kernel
theorem d_Pr_layRun_22 : decode b_Pr_layRun 22 = .ok (.invokestatic 47, 3) := by decide +kernel
theorem d_Pr_layRun_25 : decode b_Pr_layRun 25 = .ok (.dup2, 1) := by decide +kernel
theorem d_Pr_layRun_26 : decode b_Pr_layRun 26 = .ok (.iaload, 1) := by decide +kernel
theorem d_Pr_layRun_27 : decode b_Pr_layRun 27 = .ok (.iconst 1, 1) := by decide +kernel
theorem d_Pr_layRun_28 : decode b_Pr_layRun 28 = .ok (.iadd, 1) := by decide +kernel
theorem d_Pr_layRun_29 : decode b_Pr_layRun 29 = .ok (.iastore, 1) := by decide +kernel
theorem d_Pr_layRun_30 : decode b_Pr_layRun 30 = .ok (.iinc 4 1, 3) := by decide +kernel
theorem d_Pr_layRun_33 : decode b_Pr_layRun 33 = .ok (.goto (-30), 3) := by decide +kernel
theorem d_Pr_layRun_36 : decode b_Pr_layRun 36 = .ok (.return_, 1) := by decide +kernel
theorem d_Pr_playCommands_0 : decode b_Pr_playCommands 0 = .ok (.iconst 0, 1) := by decide +kernel
theorem d_Pr_playCommands_1 : decode b_Pr_playCommands 1 = .ok (.istore_n 2, 1) := by decide +kernel
theorem d_Pr_playCommands_2 : decode b_Pr_playCommands 2 = .ok (.iload_n 2, 1) := by decide +kernel
theorem d_Pr_playCommands_3 : decode b_Pr_playCommands 3 = .ok (.iload_n 1, 1) := by decide +kernel
theorem d_Pr_playCommands_4 : decode b_Pr_playCommands 4 = .ok (.if_icmp .ge 105, 3) := by decide +kernel
theorem d_Pr_playCommands_7 : decode b_Pr_playCommands 7 = .ok (.aload_n 0, 1) := by decide +kernel
theorem d_Pr_playCommands_8 : decode b_Pr_playCommands 8 = .ok (.getfield 25, 3) := by decide +kernel
theorem d_Pr_playCommands_11 : decode b_Pr_playCommands 11 = .ok (.aload_n 0, 1) := by decide +kernel
theorem d_Pr_playCommands_12 : decode b_Pr_playCommands 12 = .ok (.getfield 22, 3) := by decide +kernel
theorem d_Pr_playCommands_15 : decode b_Pr_playCommands 15 = .ok (.if_icmp .ge 94, 3) := by decide +kernel
theorem d_Pr_playCommands_18 : decode b_Pr_playCommands 18 = .ok (.aload_n 0, 1) := by decide +kernel
theorem d_Pr_playCommands_19 : decode b_Pr_playCommands 19 = .ok (.getfield 9, 3) := by decide +kernel
theorem d_Pr_playCommands_22 : decode b_Pr_playCommands 22 = .ok (.aload_n 0, 1) := by decide +kernel
theorem d_Pr_playCommands_23 : decode b_Pr_playCommands 23 = .ok (.getfield 25, 3) := by decide +kernel
theorem d_Pr_playCommands_26 : decode b_Pr_playCommands 26 = .ok (.iaload, 1) := by decide +kernel
theorem d_Pr_playCommands_27 : decode b_Pr_playCommands 27 = .ok (.sipush 200, 3) := by decide +kernel
theorem d_Pr_playCommands_30 : decode b_Pr_playCommands 30 = .ok (.if_icmp .ne 26, 3) := by decide +kernel
theorem d_Pr_playCommands_33 : decode b_Pr_playCommands 33 = .ok (.aload_n 0, 1) := by decide +kernel
theorem d_Pr_playCommands_34 : decode b_Pr_playCommands 34 = .ok (.dup, 1) := by decide +kernel
theorem d_Pr_playCommands_35 : decode b_Pr_playCommands 35 = .ok (.getfield 18, 3) := by decide +kernel
theorem d_Pr_playCommands_38 : decode b_Pr_playCommands 38 = .ok (.iconst 1, 1) := by decide +kernel
theorem d_Pr_playCommands_39 : decode b_Pr_playCommands 39 = .ok (.iadd, 1) := by decide +kernel
theorem d_Pr_playCommands_40 : decode b_Pr_playCommands 40 = .ok (.putfield 18, 3) := by decide +kernel
theorem d_Pr_playCommands_43 : decode b_Pr_playCommands 43 = .ok (.aload_n 0, 1) := by decide +kernel
theorem d_Pr_playCommands_44 : decode b_Pr_playCommands 44 = .ok (.dup, 1) := by decide +kernel
theorem d_Pr_playCommands_45 : decode b_Pr_playCommands 45 = .ok (.getfield 25, 3) := by decide +kernel
theorem d_Pr_playCommands_48 : decode b_Pr_playCommands 48 = .ok (.iconst 1, 1) := by decide +kernel
theorem d_Pr_playCommands_49 : decode b_Pr_playCommands 49 = .ok (.iadd, 1) := by decide +kernel
theorem d_Pr_playCommands_50 : decode b_Pr_playCommands 50 = .ok (.putfield 25, 3) := by decide +kernel
theorem d_Pr_playCommands_53 : decode b_Pr_playCommands 53 = .ok (.goto 50, 3) := by decide +kernel
theorem d_Pr_playCommands_56 : decode b_Pr_playCommands 56 = .ok (.aload_n 0, 1) := by decide +kernel
theorem d_Pr_playCommands_57 : decode b_Pr_playCommands 57 = .ok (.aload_n 0, 1) := by decide +kernel
theorem d_Pr_playCommands_58 : decode b_Pr_playCommands 58 = .ok (.getfield 9, 3) := by decide +kernel
theorem d_Pr_playCommands_61 : decode b_Pr_playCommands 61 = .ok (.aload_n 0, 1) := by decide +kernel
theorem d_Pr_playCommands_62 : decode b_Pr_playCommands 62 = .ok (.getfield 25, 3) := by decide +kernel
theorem d_Pr_playCommands_65 : decode b_Pr_playCommands 65 = .ok (.iconst 1, 1) := by decide +kernel
theorem d_Pr_playCommands_66 : decode b_Pr_playCommands 66 = .ok (.iadd, 1) := by decide +kernel
theorem d_Pr_playCommands_67 : decode b_Pr_playCommands 67 = .ok (.iaload, 1) := by decide +kernel
theorem d_Pr_playCommands_68 : decode b_Pr_playCommands 68 = .ok (.aload_n 0, 1) := by decide +kernel
theorem d_Pr_playCommands_69 : decode b_Pr_playCommands 69 = .ok (.getfield 9, 3) := by decide +kernel
theorem d_Pr_playCommands_72 : decode b_Pr_playCommands 72 = .ok (.aload_n 0, 1) := by decide +kernel
theorem d_Pr_playCommands_73 : decode b_Pr_playCommands 73 = .ok (.getfield 25, 3) := by decide +kernel
theorem d_Pr_playCommands_76 : decode b_Pr_playCommands 76 = .ok (.iconst 2, 1) := by decide +kernel
theorem d_Pr_playCommands_77 : decode b_Pr_playCommands 77 = .ok (.iadd, 1) := by decide +kernel
theorem d_Pr_playCommands_78 : decode b_Pr_playCommands 78 = .ok (.iaload, 1) := by decide +kernel
theorem d_Pr_playCommands_79 : decode b_Pr_playCommands 79 = .ok (.aload_n 0, 1) := by decide +kernel
theorem d_Pr_playCommands_80 : decode b_Pr_playCommands 80 = .ok (.getfield 9, 3) := by decide +kernel
theorem d_Pr_playCommands_83 : decode b_Pr_playCommands 83 = .ok (.aload_n 0, 1) := by decide +kernel
theorem d_Pr_playCommands_84 : decode b_Pr_playCommands 84 = .ok (.getfield 25, 3) := by decide +kernel
theorem d_Pr_playCommands_87 : decode b_Pr_playCommands 87 = .ok (.iconst 4, 1) := by decide +kernel
theorem d_Pr_playCommands_88 : decode b_Pr_playCommands 88 = .ok (.iadd, 1) := by decide +kernel
theorem d_Pr_playCommands_89 : decode b_Pr_playCommands 89 = .ok (.iaload, 1) := by decide +kernel
theorem d_Pr_playCommands_90 : decode b_Pr_playCommands 90 = .ok (.invokevirtual 43, 3) := by decide +kernel
theorem d_Pr_playCommands_93 : decode b_Pr_playCommands 93 = .ok (.aload_n 0, 1) := by decide +kernel
theorem d_Pr_playCommands_94 : decode b_Pr_playCommands 94 = .ok (.dup, 1) := by decide +kernel
theorem d_Pr_playCommands_95 : decode b_Pr_playCommands 95 = .ok (.getfield 25, 3) := by decide +kernel
theorem d_Pr_playCommands_98 : decode b_Pr_playCommands 98 = .ok (.iconst 5, 1) := by decide +kernel
theorem d_Pr_playCommands_99 : decode b_Pr_playCommands 99 = .ok (.iadd, 1) := by decide +kernel
theorem d_Pr_playCommands_100 : decode b_Pr_playCommands 100 = .ok (.putfield 25, 3) := by decide +kernel
theorem d_Pr_playCommands_103 : decode b_Pr_playCommands 103 = .ok (.iinc 2 1, 3) := by decide +kernel
theorem d_Pr_playCommands_106 : decode b_Pr_playCommands 106 = .ok (.goto (-104), 3) := by decide +kernel
theorem d_Pr_playCommands_109 : decode b_Pr_playCommands 109 = .ok (.iload_n 2, 1) := by decide +kernel
theorem d_Pr_playCommands_110 : decode b_Pr_playCommands 110 = .ok (.ireturn, 1) := by decide +kernel
theorem d_Pr_init_0 : decode b_Pr_init 0 = .ok (.aload_n 0, 1) := by decide +kernel
theorem d_Pr_init_1 : decode b_Pr_init 1 = .ok (.invokespecial 3, 3) := by decide +kernel
theorem d_Pr_init_4 : decode b_Pr_init 4 = .ok (.aload_n 0, 1) := by decide +kernel
theorem d_Pr_init_5 : decode b_Pr_init 5 = .ok (.sipush 17304, 3) := by decide +kernel
theorem d_Pr_init_8 : decode b_Pr_init 8 = .ok (.newarray .int, 2) := by decide +kernel
theorem d_Pr_init_10 : decode b_Pr_init 10 = .ok (.putfield 9, 3) := by decide +kernel
theorem d_Pr_init_13 : decode b_Pr_init 13 = .ok (.aload_n 0, 1) := by decide +kernel
theorem d_Pr_init_14 : decode b_Pr_init 14 = .ok (.sipush 3456, 3) := by decide +kernel
theorem d_Pr_init_17 : decode b_Pr_init 17 = .ok (.newarray .int, 2) := by decide +kernel
theorem d_Pr_init_19 : decode b_Pr_init 19 = .ok (.putfield 15, 3) := by decide +kernel
theorem d_Pr_init_22 : decode b_Pr_init 22 = .ok (.aload_n 0, 1) := by decide +kernel
theorem d_Pr_init_23 : decode b_Pr_init 23 = .ok (.iconst (-1), 1) := by decide +kernel
theorem d_Pr_init_24 : decode b_Pr_init 24 = .ok (.putfield 18, 3) := by decide +kernel
theorem d_Pr_init_27 : decode b_Pr_init 27 = .ok (.return_, 1) := by decide +kernel
