theorem d_Mo_isLaid_0 : decode b_Mo_isLaid 0 = .ok (.iload_n 0, 1) := by decide +kernel
theorem d_Mo_isLaid_1 : decode b_Mo_isLaid 1 = .ok (.iconst 1, 1) := by decide +kernel
theorem d_Mo_isLaid_2 : decode b_Mo_isLaid 2 = .ok (.if_icmp .eq 18, 3) := by decide +kernel
theorem d_Mo_isLaid_5 : decode b_Mo_isLaid 5 = .ok (.iload_n 0, 1) := by decide +kernel
theorem d_Mo_isLaid_6 : decode b_Mo_isLaid 6 = .ok (.iconst 2, 1) := by decide +kernel
theorem d_Mo_isLaid_7 : decode b_Mo_isLaid 7 = .ok (.if_icmp .eq 13, 3) := by decide +kernel
theorem d_Mo_isLaid_10 : decode b_Mo_isLaid 10 = .ok (.iload_n 0, 1) := by decide +kernel
theorem d_Mo_isLaid_11 : decode b_Mo_isLaid 11 = .ok (.iconst 3, 1) := by decide +kernel
theorem d_Mo_isLaid_12 : decode b_Mo_isLaid 12 = .ok (.if_icmp .eq 8, 3) := by decide +kernel
theorem d_Mo_isLaid_15 : decode b_Mo_isLaid 15 = .ok (.iload_n 0, 1) := by decide +kernel
theorem d_Mo_isLaid_16 : decode b_Mo_isLaid 16 = .ok (.iconst 5, 1) := by decide +kernel
theorem d_Mo_isLaid_17 : decode b_Mo_isLaid 17 = .ok (.if_icmp .ne 7, 3) := by decide +kernel
theorem d_Mo_isLaid_20 : decode b_Mo_isLaid 20 = .ok (.iconst 1, 1) := by decide +kernel
theorem d_Mo_isLaid_21 : decode b_Mo_isLaid 21 = .ok (.goto 4, 3) := by decide +kernel
theorem d_Mo_isLaid_24 : decode b_Mo_isLaid 24 = .ok (.iconst 0, 1) := by decide +kernel
theorem d_Mo_isLaid_25 : decode b_Mo_isLaid 25 = .ok (.ireturn, 1) := by decide +kernel
theorem d_Mo_begins_0 : decode b_Mo_begins 0 = .ok (.iload_n 2, 1) := by decide +kernel
theorem d_Mo_begins_1 : decode b_Mo_begins 1 = .ok (.istore_n 3, 1) := by decide +kernel
theorem d_Mo_begins_2 : decode b_Mo_begins 2 = .ok (.iconst 0, 1) := by decide +kernel
theorem d_Mo_begins_3 : decode b_Mo_begins 3 = .ok (.istore 4, 2) := by decide +kernel
theorem d_Mo_begins_5 : decode b_Mo_begins 5 = .ok (.iload 4, 2) := by decide +kernel
theorem d_Mo_begins_7 : decode b_Mo_begins 7 = .ok (.sipush 144, 3) := by decide +kernel
theorem d_Mo_begins_10 : decode b_Mo_begins 10 = .ok (.if_icmp .ge 77, 3) := by decide +kernel
theorem d_Mo_begins_13 : decode b_Mo_begins 13 = .ok (.aload_n 0, 1) := by decide +kernel
theorem d_Mo_begins_14 : decode b_Mo_begins 14 = .ok (.iload_n 1, 1) := by decide +kernel
theorem d_Mo_begins_15 : decode b_Mo_begins 15 = .ok (.iload 4, 2) := by decide +kernel
theorem d_Mo_begins_17 : decode b_Mo_begins 17 = .ok (.bipush 12, 2) := by decide +kernel
theorem d_Mo_begins_19 : decode b_Mo_begins 19 = .ok (.irem, 1) := by decide +kernel
theorem d_Mo_begins_20 : decode b_Mo_begins 20 = .ok (.iload 4, 2) := by decide +kernel
theorem d_Mo_begins_22 : decode b_Mo_begins 22 = .ok (.bipush 12, 2) := by decide +kernel
theorem d_Mo_begins_24 : decode b_Mo_begins 24 = .ok (.idiv, 1) := by decide +kernel
theorem d_Mo_begins_25 : decode b_Mo_begins 25 = .ok (.invokevirtual 167, 3) := by decide +kernel
theorem d_Mo_begins_28 : decode b_Mo_begins 28 = .ok (.istore 5, 2) := by decide +kernel
theorem d_Mo_begins_30 : decode b_Mo_begins 30 = .ok (.iload 5, 2) := by decide +kernel
theorem d_Mo_begins_32 : decode b_Mo_begins 32 = .ok (.invokestatic 170, 3) := by decide +kernel
theorem d_Mo_begins_35 : decode b_Mo_begins 35 = .ok (.ifCond .eq 46, 3) := by decide +kernel
theorem d_Mo_begins_38 : decode b_Mo_begins 38 = .ok (.iload 4, 2) := by decide +kernel
theorem d_Mo_begins_40 : decode b_Mo_begins 40 = .ok (.bipush 12, 2) := by decide +kernel
theorem d_Mo_begins_42 : decode b_Mo_begins 42 = .ok (.irem, 1) := by decide +kernel
theorem d_Mo_begins_43 : decode b_Mo_begins 43 = .ok (.ifCond .le 28, 3) := by decide +kernel
theorem d_Mo_begins_46 : decode b_Mo_begins 46 = .ok (.aload_n 0, 1) := by decide +kernel
theorem d_Mo_begins_47 : decode b_Mo_begins 47 = .ok (.iload_n 1, 1) := by decide +kernel
theorem d_Mo_begins_48 : decode b_Mo_begins 48 = .ok (.iload 4, 2) := by decide +kernel
theorem d_Mo_begins_50 : decode b_Mo_begins 50 = .ok (.bipush 12, 2) := by decide +kernel
theorem d_Mo_begins_52 : decode b_Mo_begins 52 = .ok (.irem, 1) := by decide +kernel
theorem d_Mo_begins_53 : decode b_Mo_begins 53 = .ok (.iconst 1, 1) := by decide +kernel
theorem d_Mo_begins_54 : decode b_Mo_begins 54 = .ok (.isub, 1) := by decide +kernel
theorem d_Mo_begins_55 : decode b_Mo_begins 55 = .ok (.iload 4, 2) := by decide +kernel
theorem d_Mo_begins_57 : decode b_Mo_begins 57 = .ok (.bipush 12, 2) := by decide +kernel
theorem d_Mo_begins_59 : decode b_Mo_begins 59 = .ok (.idiv, 1) := by decide +kernel
theorem d_Mo_begins_60 : decode b_Mo_begins 60 = .ok (.invokevirtual 167, 3) := by decide +kernel
theorem d_Mo_begins_63 : decode b_Mo_begins 63 = .ok (.iload 5, 2) := by decide +kernel
theorem d_Mo_begins_65 : decode b_Mo_begins 65 = .ok (.if_icmp .ne 6, 3) := by decide +kernel
theorem d_Mo_begins_68 : decode b_Mo_begins 68 = .ok (.goto 13, 3) := by decide +kernel
theorem d_Mo_begins_71 : decode b_Mo_begins 71 = .ok (.iload_n 3, 1) := by decide +kernel
theorem d_Mo_begins_72 : decode b_Mo_begins 72 = .ok (.ifCond .ne 6, 3) := by decide +kernel
theorem d_Mo_begins_75 : decode b_Mo_begins 75 = .ok (.iload 4, 2) := by decide +kernel
theorem d_Mo_begins_77 : decode b_Mo_begins 77 = .ok (.ireturn, 1) := by decide +kernel
theorem d_Mo_begins_78 : decode b_Mo_begins 78 = .ok (.iinc 3 (-1), 3) := by decide +kernel
theorem d_Mo_begins_81 : decode b_Mo_begins 81 = .ok (.iinc 4 1, 3) := by decide +kernel
theorem d_Mo_begins_84 : decode b_Mo_begins 84 = .ok (.goto (-79), 3) := by decide +kernel
theorem d_Mo_begins_87 : decode b_Mo_begins 87 = .ok (.iconst (-1), 1) := by decide +kernel
theorem d_Mo_begins_88 : decode b_Mo_begins 88 = .ok (.ireturn, 1) := by decide +kernel
theorem d_Mo_longAt_0 : decode b_Mo_longAt 0 = .ok (.iconst 1, 1) := by decide +kernel
theorem d_Mo_longAt_1 : decode b_Mo_longAt 1 = .ok (.istore_n 3, 1) := by decide +kernel
theorem d_Mo_longAt_2 : decode b_Mo_longAt 2 = .ok (.iload_n 2, 1) := by decide +kernel
theorem d_Mo_longAt_3 : decode b_Mo_longAt 3 = .ok (.bipush 12, 2) := by decide +kernel
theorem d_Mo_longAt_5 : decode b_Mo_longAt 5 = .ok (.irem, 1) := by decide +kernel
theorem d_Mo_longAt_6 : decode b_Mo_longAt 6 = .ok (.iload_n 3, 1) := by decide +kernel
theorem d_Mo_longAt_7 : decode b_Mo_longAt 7 = .ok (.iadd, 1) := by decide +kernel
theorem d_Mo_longAt_8 : decode b_Mo_longAt 8 = .ok (.bipush 12, 2) := by decide +kernel
theorem d_Mo_longAt_10 : decode b_Mo_longAt 10 = .ok (.if_icmp .ge 40, 3) := by decide +kernel
theorem d_Mo_longAt_13 : decode b_Mo_longAt 13 = .ok (.aload_n 0, 1) := by decide +kernel
theorem d_Mo_longAt_14 : decode b_Mo_longAt 14 = .ok (.iload_n 1, 1) := by decide +kernel
theorem d_Mo_longAt_15 : decode b_Mo_longAt 15 = .ok (.iload_n 2, 1) := by decide +kernel
theorem d_Mo_longAt_16 : decode b_Mo_longAt 16 = .ok (.bipush 12, 2) := by decide +kernel
theorem d_Mo_longAt_18 : decode b_Mo_longAt 18 = .ok (.irem, 1) := by decide +kernel
theorem d_Mo_longAt_19 : decode b_Mo_longAt 19 = .ok (.iload_n 3, 1) := by decide +kernel
theorem d_Mo_longAt_20 : decode b_Mo_longAt 20 = .ok (.iadd, 1) := by decide +kernel
theorem d_Mo_longAt_21 : decode b_Mo_longAt 21 = .ok (.iload_n 2, 1) := by decide +kernel
theorem d_Mo_longAt_22 : decode b_Mo_longAt 22 = .ok (.bipush 12, 2) := by decide +kernel
theorem d_Mo_longAt_24 : decode b_Mo_longAt 24 = .ok (.idiv, 1) := by decide +kernel
theorem d_Mo_longAt_25 : decode b_Mo_longAt 25 = .ok (.invokevirtual 167, 3) := by decide +kernel
theorem d_Mo_longAt_28 : decode b_Mo_longAt 28 = .ok (.aload_n 0, 1) := by decide +kernel
theorem d_Mo_longAt_29 : decode b_Mo_longAt 29 = .ok (.iload_n 1, 1) := by decide +kernel
theorem d_Mo_longAt_30 : decode b_Mo_longAt 30 = .ok (.iload_n 2, 1) := by decide +kernel
theorem d_Mo_longAt_31 : decode b_Mo_longAt 31 = .ok (.bipush 12, 2) := by decide +kernel
theorem d_Mo_longAt_33 : decode b_Mo_longAt 33 = .ok (.irem, 1) := by decide +kernel
theorem d_Mo_longAt_34 : decode b_Mo_longAt 34 = .ok (.iload_n 2, 1) := by decide +kernel
theorem d_Mo_longAt_35 : decode b_Mo_longAt 35 = .ok (.bipush 12, 2) := by decide +kernel
theorem d_Mo_longAt_37 : decode b_Mo_longAt 37 = .ok (.idiv, 1) := by decide +kernel
theorem d_Mo_longAt_38 : decode b_Mo_longAt 38 = .ok (.invokevirtual 167, 3) := by decide +kernel
theorem d_Mo_longAt_41 : decode b_Mo_longAt 41 = .ok (.if_icmp .ne 9, 3) := by decide +kernel
theorem d_Mo_longAt_44 : decode b_Mo_longAt 44 = .ok (.iinc 3 1, 3) := by decide +kernel
theorem d_Mo_longAt_47 : decode b_Mo_longAt 47 = .ok (.goto (-45), 3) := by decide +kernel
theorem d_Mo_longAt_50 : decode b_Mo_longAt 50 = .ok (.iload_n 3, 1) := by decide +kernel
theorem d_Mo_longAt_51 : decode b_Mo_longAt 51 = .ok (.ireturn, 1) := by decide +kernel
theorem d_Mo_pathsOf_0 : decode b_Mo_pathsOf 0 = .ok (.iconst 0, 1) := by decide +kernel
theorem d_Mo_pathsOf_1 : decode b_Mo_pathsOf 1 = .ok (.istore_n 2, 1) := by decide +kernel
theorem d_Mo_pathsOf_2 : decode b_Mo_pathsOf 2 = .ok (.iload_n 1, 1) := by decide +kernel
theorem d_Mo_pathsOf_3 : decode b_Mo_pathsOf 3 = .ok (.iconst 0, 1) := by decide +kernel
theorem d_Mo_pathsOf_4 : decode b_Mo_pathsOf 4 = .ok (.aload_n 0, 1) := by decide +kernel
theorem d_Mo_pathsOf_5 : decode b_Mo_pathsOf 5 = .ok (.getfield 116, 3) := by decide +kernel
theorem d_Mo_pathsOf_8 : decode b_Mo_pathsOf 8 = .ok (.iconst 1, 1) := by decide +kernel
theorem d_Mo_pathsOf_9 : decode b_Mo_pathsOf 9 = .ok (.isub, 1) := by decide +kernel
theorem d_Mo_pathsOf_10 : decode b_Mo_pathsOf 10 = .ok (.invokestatic 66, 3) := by decide +kernel
theorem d_Mo_pathsOf_13 : decode b_Mo_pathsOf 13 = .ok (.ifCond .eq 18, 3) := by decide +kernel
theorem d_Mo_pathsOf_16 : decode b_Mo_pathsOf 16 = .ok (.aload_n 0, 1) := by decide +kernel
theorem d_Mo_pathsOf_17 : decode b_Mo_pathsOf 17 = .ok (.iload_n 1, 1) := by decide +kernel
theorem d_Mo_pathsOf_18 : decode b_Mo_pathsOf 18 = .ok (.iload_n 2, 1) := by decide +kernel
theorem d_Mo_pathsOf_19 : decode b_Mo_pathsOf 19 = .ok (.invokevirtual 173, 3) := by decide +kernel
theorem d_Mo_pathsOf_22 : decode b_Mo_pathsOf 22 = .ok (.ifCond .lt 9, 3) := by decide +kernel
theorem d_Mo_pathsOf_25 : decode b_Mo_pathsOf 25 = .ok (.iinc 2 1, 3) := by decide +kernel
theorem d_Mo_pathsOf_28 : decode b_Mo_pathsOf 28 = .ok (.goto (-26), 3) := by decide +kernel
theorem d_Mo_pathsOf_31 : decode b_Mo_pathsOf 31 = .ok (.iload_n 2, 1) := by decide +kernel
theorem d_Mo_pathsOf_32 : decode b_Mo_pathsOf 32 = .ok (.ireturn, 1) := by decide +kernel
theorem d_Mo_paths_0 : decode b_Mo_paths 0 = .ok (.aload_n 0, 1) := by decide +kernel
theorem d_Mo_paths_1 : decode b_Mo_paths 1 = .ok (.iconst 0, 1) := by decide +kernel
theorem d_Mo_paths_2 : decode b_Mo_paths 2 = .ok (.putfield 60, 3) := by decide +kernel
theorem d_Mo_paths_5 : decode b_Mo_paths 5 = .ok (.aload_n 0, 1) := by decide +kernel
theorem d_Mo_paths_6 : decode b_Mo_paths 6 = .ok (.iload_n 1, 1) := by decide +kernel
theorem d_Mo_paths_7 : decode b_Mo_paths 7 = .ok (.invokevirtual 176, 3) := by decide +kernel
theorem d_Mo_paths_10 : decode b_Mo_paths 10 = .ok (.ireturn, 1) := by decide +kernel
theorem d_Mo_path_0 : decode b_Mo_path 0 = .ok (.iload_n 1, 1) := by decide +kernel
theorem d_Mo_path_1 : decode b_Mo_path 1 = .ok (.iconst 0, 1) := by decide +kernel
theorem d_Mo_path_2 : decode b_Mo_path 2 = .ok (.aload_n 0, 1) := by decide +kernel
theorem d_Mo_path_3 : decode b_Mo_path 3 = .ok (.getfield 116, 3) := by decide +kernel
theorem d_Mo_path_6 : decode b_Mo_path 6 = .ok (.iconst 1, 1) := by decide +kernel
theorem d_Mo_path_7 : decode b_Mo_path 7 = .ok (.isub, 1) := by decide +kernel
theorem d_Mo_path_8 : decode b_Mo_path 8 = .ok (.invokestatic 66, 3) := by decide +kernel
theorem d_Mo_path_11 : decode b_Mo_path 11 = .ok (.ifCond .eq 25, 3) := by decide +kernel
theorem d_Mo_path_14 : decode b_Mo_path 14 = .ok (.iload_n 2, 1) := by decide +kernel
theorem d_Mo_path_15 : decode b_Mo_path 15 = .ok (.ifCond .lt 21, 3) := by decide +kernel
theorem d_Mo_path_18 : decode b_Mo_path 18 = .ok (.iload_n 3, 1) := by decide +kernel
theorem d_Mo_path_19 : decode b_Mo_path 19 = .ok (.iconst 0, 1) := by decide +kernel
theorem d_Mo_path_20 : decode b_Mo_path 20 = .ok (.iconst 3, 1) := by decide +kernel
theorem d_Mo_path_21 : decode b_Mo_path 21 = .ok (.invokestatic 66, 3) := by decide +kernel
theorem d_Mo_path_24 : decode b_Mo_path 24 = .ok (.ifCond .eq 12, 3) := by decide +kernel
theorem d_Mo_path_27 : decode b_Mo_path 27 = .ok (.aload_n 0, 1) := by decide +kernel
theorem d_Mo_path_28 : decode b_Mo_path 28 = .ok (.iload_n 1, 1) := by decide +kernel
theorem d_Mo_path_29 : decode b_Mo_path 29 = .ok (.iload_n 2, 1) := by decide +kernel
theorem d_Mo_path_30 : decode b_Mo_path 30 = .ok (.invokevirtual 173, 3) := by decide +kernel
theorem d_Mo_path_33 : decode b_Mo_path 33 = .ok (.goto 4, 3) := by decide +kernel
theorem d_Mo_path_36 : decode b_Mo_path 36 = .ok (.iconst (-1), 1) := by decide +kernel
theorem d_Mo_path_37 : decode b_Mo_path 37 = .ok (.istore 4, 2) := by decide +kernel
theorem d_Mo_path_39 : decode b_Mo_path 39 = .ok (.aload_n 0, 1) := by decide +kernel
theorem d_Mo_path_40 : decode b_Mo_path 40 = .ok (.iload 4, 2) := by decide +kernel
theorem d_Mo_path_42 : decode b_Mo_path 42 = .ok (.ifCond .lt 7, 3) := by decide +kernel
theorem d_Mo_path_45 : decode b_Mo_path 45 = .ok (.iconst 0, 1) := by decide +kernel
theorem d_Mo_path_46 : decode b_Mo_path 46 = .ok (.goto 4, 3) := by decide +kernel
theorem d_Mo_path_49 : decode b_Mo_path 49 = .ok (.iconst 1, 1) := by decide +kernel
theorem d_Mo_path_50 : decode b_Mo_path 50 = .ok (.putfield 60, 3) := by decide +kernel
theorem d_Mo_path_53 : decode b_Mo_path 53 = .ok (.iload 4, 2) := by decide +kernel
theorem d_Mo_path_55 : decode b_Mo_path 55 = .ok (.ifCond .ge 5, 3) := by decide +kernel
theorem d_Mo_path_58 : decode b_Mo_path 58 = .ok (.iconst 0, 1) := by decide +kernel
theorem d_Mo_path_59 : decode b_Mo_path 59 = .ok (.ireturn, 1) := by decide +kernel
theorem d_Mo_path_60 : decode b_Mo_path 60 = .ok (.iload_n 3, 1) := by decide +kernel
theorem d_Mo_path_61 : decode b_Mo_path 61 = .ok (.ifCond .ne 21, 3) := by decide +kernel
theorem d_Mo_path_64 : decode b_Mo_path 64 = .ok (.aload_n 0, 1) := by decide +kernel
theorem d_Mo_path_65 : decode b_Mo_path 65 = .ok (.iload_n 1, 1) := by decide +kernel
theorem d_Mo_path_66 : decode b_Mo_path 66 = .ok (.iload 4, 2) := by decide +kernel
theorem d_Mo_path_68 : decode b_Mo_path 68 = .ok (.bipush 12, 2) := by decide +kernel
theorem d_Mo_path_70 : decode b_Mo_path 70 = .ok (.irem, 1) := by decide +kernel
theorem d_Mo_path_71 : decode b_Mo_path 71 = .ok (.iload 4, 2) := by decide +kernel
theorem d_Mo_path_73 : decode b_Mo_path 73 = .ok (.bipush 12, 2) := by decide +kernel
theorem d_Mo_path_75 : decode b_Mo_path 75 = .ok (.idiv, 1) := by decide +kernel
theorem d_Mo_path_76 : decode b_Mo_path 76 = .ok (.invokevirtual 167, 3) := by decide +kernel
theorem d_Mo_path_79 : decode b_Mo_path 79 = .ok (.goto 36, 3) := by decide +kernel
theorem d_Mo_path_82 : decode b_Mo_path 82 = .ok (.iload_n 3, 1) := by decide +kernel
theorem d_Mo_path_83 : decode b_Mo_path 83 = .ok (.iconst 1, 1) := by decide +kernel
theorem d_Mo_path_84 : decode b_Mo_path 84 = .ok (.if_icmp .ne 11, 3) := by decide +kernel
theorem d_Mo_path_87 : decode b_Mo_path 87 = .ok (.iload 4, 2) := by decide +kernel
theorem d_Mo_path_89 : decode b_Mo_path 89 = .ok (.bipush 12, 2) := by decide +kernel
theorem d_Mo_path_91 : decode b_Mo_path 91 = .ok (.irem, 1) := by decide +kernel
theorem d_Mo_path_92 : decode b_Mo_path 92 = .ok (.goto 23, 3) := by decide +kernel
theorem d_Mo_path_95 : decode b_Mo_path 95 = .ok (.iload_n 3, 1) := by decide +kernel
theorem d_Mo_path_96 : decode b_Mo_path 96 = .ok (.iconst 2, 1) := by decide +kernel
theorem d_Mo_path_97 : decode b_Mo_path 97 = .ok (.if_icmp .ne 11, 3) := by decide +kernel
theorem d_Mo_path_100 : decode b_Mo_path 100 = .ok (.iload 4, 2) := by decide +kernel
theorem d_Mo_path_102 : decode b_Mo_path 102 = .ok (.bipush 12, 2) := by decide +kernel
theorem d_Mo_path_104 : decode b_Mo_path 104 = .ok (.idiv, 1) := by decide +kernel
theorem d_Mo_path_105 : decode b_Mo_path 105 = .ok (.goto 10, 3) := by decide +kernel
theorem d_Mo_path_108 : decode b_Mo_path 108 = .ok (.aload_n 0, 1) := by decide +kernel
theorem d_Mo_path_109 : decode b_Mo_path 109 = .ok (.iload_n 1, 1) := by decide +kernel
theorem d_Mo_path_110 : decode b_Mo_path 110 = .ok (.iload 4, 2) := by decide +kernel
theorem d_Mo_path_112 : decode b_Mo_path 112 = .ok (.invokevirtual 179, 3) := by decide +kernel
theorem d_Mo_path_115 : decode b_Mo_path 115 = .ok (.ireturn, 1) := by decide +kernel
theorem d_Mo_put_0 : decode b_Mo_put 0 = .ok (.aload_n 0, 1) := by decide +kernel
theorem d_Mo_put_1 : decode b_Mo_put 1 = .ok (.getfield 35, 3) := by decide +kernel
theorem d_Mo_put_4 : decode b_Mo_put 4 = .ok (.aload_n 0, 1) := by decide +kernel
theorem d_Mo_put_5 : decode b_Mo_put 5 = .ok (.getfield 125, 3) := by decide +kernel
theorem d_Mo_put_8 : decode b_Mo_put 8 = .ok (.iload_n 1, 1) := by decide +kernel
theorem d_Mo_put_9 : decode b_Mo_put 9 = .ok (.iastore, 1) := by decide +kernel
theorem d_Mo_put_10 : decode b_Mo_put 10 = .ok (.aload_n 0, 1) := by decide +kernel
theorem d_Mo_put_11 : decode b_Mo_put 11 = .ok (.dup, 1) := by decide +kernel
theorem d_Mo_put_12 : decode b_Mo_put 12 = .ok (.getfield 125, 3) := by decide +kernel
theorem d_Mo_put_15 : decode b_Mo_put 15 = .ok (.iconst 1, 1) := by decide +kernel
theorem d_Mo_put_16 : decode b_Mo_put 16 = .ok (.iadd, 1) := by decide +kernel
theorem d_Mo_put_17 : decode b_Mo_put 17 = .ok (.putfield 125, 3) := by decide +kernel
theorem d_Mo_put_20 : decode b_Mo_put 20 = .ok (.return_, 1) := by decide +kernel
theorem d_Mo_emit_0 : decode b_Mo_emit 0 = .ok (.aload_n 0, 1) := by decide +kernel
theorem d_Mo_emit_1 : decode b_Mo_emit 1 = .ok (.iconst 0, 1) := by decide +kernel
theorem d_Mo_emit_2 : decode b_Mo_emit 2 = .ok (.putfield 60, 3) := by decide +kernel
theorem d_Mo_emit_5 : decode b_Mo_emit 5 = .ok (.aload_n 0, 1) := by decide +kernel
theorem d_Mo_emit_6 : decode b_Mo_emit 6 = .ok (.iconst 0, 1) := by decide +kernel
theorem d_Mo_emit_7 : decode b_Mo_emit 7 = .ok (.putfield 125, 3) := by decide +kernel
theorem d_Mo_emit_10 : decode b_Mo_emit 10 = .ok (.aload_n 0, 1) := by decide +kernel
theorem d_Mo_emit_11 : decode b_Mo_emit 11 = .ok (.invokevirtual 128, 3) := by decide +kernel
theorem d_Mo_emit_14 : decode b_Mo_emit 14 = .ok (.iconst 0, 1) := by decide +kernel
theorem d_Mo_emit_15 : decode b_Mo_emit 15 = .ok (.istore_n 1, 1) := by decide +kernel
theorem d_Mo_emit_16 : decode b_Mo_emit 16 = .ok (.iload_n 1, 1) := by decide +kernel
theorem d_Mo_emit_17 : decode b_Mo_emit 17 = .ok (.aload_n 0, 1) := by decide +kernel
theorem d_Mo_emit_18 : decode b_Mo_emit 18 = .ok (.getfield 116, 3) := by decide +kernel
theorem d_Mo_emit_21 : decode b_Mo_emit 21 = .ok (.if_icmp .ge 119, 3) := by decide +kernel
theorem d_Mo_emit_24 : decode b_Mo_emit 24 = .ok (.aload_n 0, 1) := by decide +kernel
theorem d_Mo_emit_25 : decode b_Mo_emit 25 = .ok (.sipush 200, 3) := by decide +kernel
theorem d_Mo_emit_28 : decode b_Mo_emit 28 = .ok (.invokevirtual 185, 3) := by decide +kernel
theorem d_Mo_emit_31 : decode b_Mo_emit 31 = .ok (.iconst 0, 1) := by decide +kernel
theorem d_Mo_emit_32 : decode b_Mo_emit 32 = .ok (.istore_n 2, 1) := by decide +kernel
theorem d_Mo_emit_33 : decode b_Mo_emit 33 = .ok (.iload_n 2, 1) := by decide +kernel
theorem d_Mo_emit_34 : decode b_Mo_emit 34 = .ok (.sipush 144, 3) := by decide +kernel
theorem d_Mo_emit_37 : decode b_Mo_emit 37 = .ok (.if_icmp .ge 97, 3) := by decide +kernel
theorem d_Mo_emit_40 : decode b_Mo_emit 40 = .ok (.aload_n 0, 1) := by decide +kernel
theorem d_Mo_emit_41 : decode b_Mo_emit 41 = .ok (.iload_n 1, 1) := by decide +kernel
theorem d_Mo_emit_42 : decode b_Mo_emit 42 = .ok (.iload_n 2, 1) := by decide +kernel
theorem d_Mo_emit_43 : decode b_Mo_emit 43 = .ok (.bipush 12, 2) := by decide +kernel
theorem d_Mo_emit_45 : decode b_Mo_emit 45 = .ok (.irem, 1) := by decide +kernel
theorem d_Mo_emit_46 : decode b_Mo_emit 46 = .ok (.iload_n 2, 1) := by decide +kernel
theorem d_Mo_emit_47 : decode b_Mo_emit 47 = .ok (.bipush 12, 2) := by decide +kernel
theorem d_Mo_emit_49 : decode b_Mo_emit 49 = .ok (.idiv, 1) := by decide +kernel
theorem d_Mo_emit_50 : decode b_Mo_emit 50 = .ok (.invokevirtual 167, 3) := by decide +kernel
theorem d_Mo_emit_53 : decode b_Mo_emit 53 = .ok (.istore_n 3, 1) := by decide +kernel
theorem d_Mo_emit_54 : decode b_Mo_emit 54 = .ok (.iload_n 3, 1) := by decide +kernel
theorem d_Mo_emit_55 : decode b_Mo_emit 55 = .ok (.invokestatic 170, 3) := by decide +kernel
theorem d_Mo_emit_58 : decode b_Mo_emit 58 = .ok (.ifCond .eq 70, 3) := by decide +kernel
theorem d_Mo_emit_61 : decode b_Mo_emit 61 = .ok (.iload_n 2, 1) := by decide +kernel
theorem d_Mo_emit_62 : decode b_Mo_emit 62 = .ok (.bipush 12, 2) := by decide +kernel
theorem d_Mo_emit_64 : decode b_Mo_emit 64 = .ok (.irem, 1) := by decide +kernel
theorem d_Mo_emit_65 : decode b_Mo_emit 65 = .ok (.ifCond .le 25, 3) := by decide +kernel
theorem d_Mo_emit_68 : decode b_Mo_emit 68 = .ok (.aload_n 0, 1) := by decide +kernel
theorem d_Mo_emit_69 : decode b_Mo_emit 69 = .ok (.iload_n 1, 1) := by decide +kernel
theorem d_Mo_emit_70 : decode b_Mo_emit 70 = .ok (.iload_n 2, 1) := by decide +kernel
theorem d_Mo_emit_71 : decode b_Mo_emit 71 = .ok (.bipush 12, 2) := by decide +kernel
theorem d_Mo_emit_73 : decode b_Mo_emit 73 = .ok (.irem, 1) := by decide +kernel
theorem d_Mo_emit_74 : decode b_Mo_emit 74 = .ok (.iconst 1, 1) := by decide +kernel
theorem d_Mo_emit_75 : decode b_Mo_emit 75 = .ok (.isub, 1) := by decide +kernel
theorem d_Mo_emit_76 : decode b_Mo_emit 76 = .ok (.iload_n 2, 1) := by decide +kernel
theorem d_Mo_emit_77 : decode b_Mo_emit 77 = .ok (.bipush 12, 2) := by decide +kernel
theorem d_Mo_emit_79 : decode b_Mo_emit 79 = .ok (.idiv, 1) := by decide +kernel
theorem d_Mo_emit_80 : decode b_Mo_emit 80 = .ok (.invokevirtual 167, 3) := by decide +kernel
theorem d_Mo_emit_83 : decode b_Mo_emit 83 = .ok (.iload_n 3, 1) := by decide +kernel
theorem d_Mo_emit_84 : decode b_Mo_emit 84 = .ok (.if_icmp .ne 6, 3) := by decide +kernel
theorem d_Mo_emit_87 : decode b_Mo_emit 87 = .ok (.goto 41, 3) := by decide +kernel
theorem d_Mo_emit_90 : decode b_Mo_emit 90 = .ok (.aload_n 0, 1) := by decide +kernel
theorem d_Mo_emit_91 : decode b_Mo_emit 91 = .ok (.sipush 201, 3) := by decide +kernel
theorem d_Mo_emit_94 : decode b_Mo_emit 94 = .ok (.invokevirtual 185, 3) := by decide +kernel
theorem d_Mo_emit_97 : decode b_Mo_emit 97 = .ok (.aload_n 0, 1) := by decide +kernel
theorem d_Mo_emit_98 : decode b_Mo_emit 98 = .ok (.iload_n 2, 1) := by decide +kernel
theorem d_Mo_emit_99 : decode b_Mo_emit 99 = .ok (.bipush 12, 2) := by decide +kernel
theorem d_Mo_emit_101 : decode b_Mo_emit 101 = .ok (.irem, 1) := by decide +kernel
theorem d_Mo_emit_102 : decode b_Mo_emit 102 = .ok (.invokevirtual 185, 3) := by decide +kernel
theorem d_Mo_emit_105 : decode b_Mo_emit 105 = .ok (.aload_n 0, 1) := by decide +kernel
theorem d_Mo_emit_106 : decode b_Mo_emit 106 = .ok (.iload_n 2, 1) := by decide +kernel
theorem d_Mo_emit_107 : decode b_Mo_emit 107 = .ok (.bipush 12, 2) := by decide +kernel
theorem d_Mo_emit_109 : decode b_Mo_emit 109 = .ok (.idiv, 1) := by decide +kernel
theorem d_Mo_emit_110 : decode b_Mo_emit 110 = .ok (.invokevirtual 185, 3) := by decide +kernel
theorem d_Mo_emit_113 : decode b_Mo_emit 113 = .ok (.aload_n 0, 1) := by decide +kernel
theorem d_Mo_emit_114 : decode b_Mo_emit 114 = .ok (.iload_n 3, 1) := by decide +kernel
theorem d_Mo_emit_115 : decode b_Mo_emit 115 = .ok (.invokevirtual 185, 3) := by decide +kernel
theorem d_Mo_emit_118 : decode b_Mo_emit 118 = .ok (.aload_n 0, 1) := by decide +kernel
theorem d_Mo_emit_119 : decode b_Mo_emit 119 = .ok (.aload_n 0, 1) := by decide +kernel
theorem d_Mo_emit_120 : decode b_Mo_emit 120 = .ok (.iload_n 1, 1) := by decide +kernel
theorem d_Mo_emit_121 : decode b_Mo_emit 121 = .ok (.iload_n 2, 1) := by decide +kernel
theorem d_Mo_emit_122 : decode b_Mo_emit 122 = .ok (.invokevirtual 179, 3) := by decide +kernel
theorem d_Mo_emit_125 : decode b_Mo_emit 125 = .ok (.invokevirtual 185, 3) := by decide +kernel
theorem d_Mo_emit_128 : decode b_Mo_emit 128 = .ok (.iinc 2 1, 3) := by decide +kernel
theorem d_Mo_emit_131 : decode b_Mo_emit 131 = .ok (.goto (-98), 3) := by decide +kernel
theorem d_Mo_emit_134 : decode b_Mo_emit 134 = .ok (.iinc 1 1, 3) := by decide +kernel
theorem d_Mo_emit_137 : decode b_Mo_emit 137 = .ok (.goto (-121), 3) := by decide +kernel
theorem d_Mo_emit_140 : decode b_Mo_emit 140 = .ok (.aload_n 0, 1) := by decide +kernel
theorem d_Mo_emit_141 : decode b_Mo_emit 141 = .ok (.getfield 125, 3) := by decide +kernel
theorem d_Mo_emit_144 : decode b_Mo_emit 144 = .ok (.ireturn, 1) := by decide +kernel
theorem d_Mo_byteOf_0 : decode b_Mo_byteOf 0 = .ok (.aload_n 0, 1) := by decide +kernel
theorem d_Mo_byteOf_1 : decode b_Mo_byteOf 1 = .ok (.iconst 0, 1) := by decide +kernel
theorem d_Mo_byteOf_2 : decode b_Mo_byteOf 2 = .ok (.putfield 60, 3) := by decide +kernel
theorem d_Mo_byteOf_5 : decode b_Mo_byteOf 5 = .ok (.iload_n 1, 1) := by decide +kernel
theorem d_Mo_byteOf_6 : decode b_Mo_byteOf 6 = .ok (.iconst 0, 1) := by decide +kernel
theorem d_Mo_byteOf_7 : decode b_Mo_byteOf 7 = .ok (.aload_n 0, 1) := by decide +kernel
theorem d_Mo_byteOf_8 : decode b_Mo_byteOf 8 = .ok (.getfield 125, 3) := by decide +kernel
theorem d_Mo_byteOf_11 : decode b_Mo_byteOf 11 = .ok (.iconst 1, 1) := by decide +kernel
theorem d_Mo_byteOf_12 : decode b_Mo_byteOf 12 = .ok (.isub, 1) := by decide +kernel
theorem d_Mo_byteOf_13 : decode b_Mo_byteOf 13 = .ok (.invokestatic 66, 3) := by decide +kernel
theorem d_Mo_byteOf_16 : decode b_Mo_byteOf 16 = .ok (.ifCond .eq 12, 3) := by decide +kernel
theorem d_Mo_byteOf_19 : decode b_Mo_byteOf 19 = .ok (.aload_n 0, 1) := by decide +kernel
theorem d_Mo_byteOf_20 : decode b_Mo_byteOf 20 = .ok (.getfield 35, 3) := by decide +kernel
theorem d_Mo_byteOf_23 : decode b_Mo_byteOf 23 = .ok (.iload_n 1, 1) := by decide +kernel
theorem d_Mo_byteOf_24 : decode b_Mo_byteOf 24 = .ok (.iaload, 1) := by decide +kernel
theorem d_Mo_byteOf_25 : decode b_Mo_byteOf 25 = .ok (.goto 4, 3) := by decide +kernel
theorem d_Mo_byteOf_28 : decode b_Mo_byteOf 28 = .ok (.iconst (-1), 1) := by decide +kernel
theorem d_Mo_byteOf_29 : decode b_Mo_byteOf 29 = .ok (.ireturn, 1) := by decide +kernel
theorem d_Mo_play_0 : decode b_Mo_play 0 = .ok (.aload_n 0, 1) := by decide +kernel
theorem d_Mo_play_1 : decode b_Mo_play 1 = .ok (.iconst 0, 1) := by decide +kernel
theorem d_Mo_play_2 : decode b_Mo_play 2 = .ok (.putfield 60, 3) := by decide +kernel
theorem d_Mo_play_5 : decode b_Mo_play 5 = .ok (.iconst 0, 1) := by decide +kernel
theorem d_Mo_play_6 : decode b_Mo_play 6 = .ok (.istore_n 2, 1) := by decide +kernel
theorem d_Mo_play_7 : decode b_Mo_play 7 = .ok (.iload_n 2, 1) := by decide +kernel
theorem d_Mo_play_8 : decode b_Mo_play 8 = .ok (.iload_n 1, 1) := by decide +kernel
theorem d_Mo_play_9 : decode b_Mo_play 9 = .ok (.if_icmp .ge 137, 3) := by decide +kernel
theorem d_Mo_play_12 : decode b_Mo_play 12 = .ok (.aload_n 0, 1) := by decide +kernel
theorem d_Mo_play_13 : decode b_Mo_play 13 = .ok (.getfield 182, 3) := by decide +kernel
theorem d_Mo_play_16 : decode b_Mo_play 16 = .ok (.aload_n 0, 1) := by decide +kernel
theorem d_Mo_play_17 : decode b_Mo_play 17 = .ok (.getfield 125, 3) := by decide +kernel
theorem d_Mo_play_20 : decode b_Mo_play 20 = .ok (.if_icmp .ge 126, 3) := by decide +kernel
theorem d_Mo_play_23 : decode b_Mo_play 23 = .ok (.aload_n 0, 1) := by decide +kernel
theorem d_Mo_play_24 : decode b_Mo_play 24 = .ok (.getfield 35, 3) := by decide +kernel
theorem d_Mo_play_27 : decode b_Mo_play 27 = .ok (.aload_n 0, 1) := by decide +kernel
theorem d_Mo_play_28 : decode b_Mo_play 28 = .ok (.getfield 182, 3) := by decide +kernel
theorem d_Mo_play_31 : decode b_Mo_play 31 = .ok (.iaload, 1) := by decide +kernel
theorem d_Mo_play_32 : decode b_Mo_play 32 = .ok (.sipush 200, 3) := by decide +kernel
theorem d_Mo_play_35 : decode b_Mo_play 35 = .ok (.if_icmp .ne 26, 3) := by decide +kernel
theorem d_Mo_play_38 : decode b_Mo_play 38 = .ok (.aload_n 0, 1) := by decide +kernel
theorem d_Mo_play_39 : decode b_Mo_play 39 = .ok (.dup, 1) := by decide +kernel
theorem d_Mo_play_40 : decode b_Mo_play 40 = .ok (.getfield 57, 3) := by decide +kernel
theorem d_Mo_play_43 : decode b_Mo_play 43 = .ok (.iconst 1, 1) := by decide +kernel
theorem d_Mo_play_44 : decode b_Mo_play 44 = .ok (.iadd, 1) := by decide +kernel
theorem d_Mo_play_45 : decode b_Mo_play 45 = .ok (.putfield 57, 3) := by decide +kernel
theorem d_Mo_play_48 : decode b_Mo_play 48 = .ok (.aload_n 0, 1) := by decide +kernel
theorem d_Mo_play_49 : decode b_Mo_play 49 = .ok (.dup, 1) := by decide +kernel
theorem d_Mo_play_50 : decode b_Mo_play 50 = .ok (.getfield 182, 3) := by decide +kernel
theorem d_Mo_play_53 : decode b_Mo_play 53 = .ok (.iconst 1, 1) := by decide +kernel
theorem d_Mo_play_54 : decode b_Mo_play 54 = .ok (.iadd, 1) := by decide +kernel
theorem d_Mo_play_55 : decode b_Mo_play 55 = .ok (.putfield 182, 3) := by decide +kernel
theorem d_Mo_play_58 : decode b_Mo_play 58 = .ok (.goto 82, 3) := by decide +kernel
theorem d_Mo_play_61 : decode b_Mo_play 61 = .ok (.iconst 0, 1) := by decide +kernel
theorem d_Mo_play_62 : decode b_Mo_play 62 = .ok (.istore_n 3, 1) := by decide +kernel
theorem d_Mo_play_63 : decode b_Mo_play 63 = .ok (.iload_n 3, 1) := by decide +kernel
theorem d_Mo_play_64 : decode b_Mo_play 64 = .ok (.aload_n 0, 1) := by decide +kernel
theorem d_Mo_play_65 : decode b_Mo_play 65 = .ok (.getfield 35, 3) := by decide +kernel
theorem d_Mo_play_68 : decode b_Mo_play 68 = .ok (.aload_n 0, 1) := by decide +kernel
theorem d_Mo_play_69 : decode b_Mo_play 69 = .ok (.getfield 182, 3) := by decide +kernel
theorem d_Mo_play_72 : decode b_Mo_play 72 = .ok (.iconst 4, 1) := by decide +kernel
theorem d_Mo_play_73 : decode b_Mo_play 73 = .ok (.iadd, 1) := by decide +kernel
theorem d_Mo_play_74 : decode b_Mo_play 74 = .ok (.iaload, 1) := by decide +kernel
theorem d_Mo_play_75 : decode b_Mo_play 75 = .ok (.if_icmp .ge 55, 3) := by decide +kernel
theorem d_Mo_play_78 : decode b_Mo_play 78 = .ok (.aload_n 0, 1) := by decide +kernel
theorem d_Mo_play_79 : decode b_Mo_play 79 = .ok (.getfield 38, 3) := by decide +kernel
theorem d_Mo_play_82 : decode b_Mo_play 82 = .ok (.sipush 144, 3) := by decide +kernel
theorem d_Mo_play_85 : decode b_Mo_play 85 = .ok (.aload_n 0, 1) := by decide +kernel
theorem d_Mo_play_86 : decode b_Mo_play 86 = .ok (.getfield 57, 3) := by decide +kernel
theorem d_Mo_play_89 : decode b_Mo_play 89 = .ok (.imul, 1) := by decide +kernel
theorem d_Mo_play_90 : decode b_Mo_play 90 = .ok (.bipush 12, 2) := by decide +kernel
theorem d_Mo_play_92 : decode b_Mo_play 92 = .ok (.aload_n 0, 1) := by decide +kernel
theorem d_Mo_play_93 : decode b_Mo_play 93 = .ok (.getfield 35, 3) := by decide +kernel
theorem d_Mo_play_96 : decode b_Mo_play 96 = .ok (.aload_n 0, 1) := by decide +kernel
theorem d_Mo_play_97 : decode b_Mo_play 97 = .ok (.getfield 182, 3) := by decide +kernel
theorem d_Mo_play_100 : decode b_Mo_play 100 = .ok (.iconst 2, 1) := by decide +kernel
theorem d_Mo_play_101 : decode b_Mo_play 101 = .ok (.iadd, 1) := by decide +kernel
theorem d_Mo_play_102 : decode b_Mo_play 102 = .ok (.iaload, 1) := by decide +kernel
theorem d_Mo_play_103 : decode b_Mo_play 103 = .ok (.imul, 1) := by decide +kernel
theorem d_Mo_play_104 : decode b_Mo_play 104 = .ok (.iadd, 1) := by decide +kernel
theorem d_Mo_play_105 : decode b_Mo_play 105 = .ok (.aload_n 0, 1) := by decide +kernel
theorem d_Mo_play_106 : decode b_Mo_play 106 = .ok (.getfield 35, 3) := by decide +kernel
theorem d_Mo_play_109 : decode b_Mo_play 109 = .ok (.aload_n 0, 1) := by decide +kernel
theorem d_Mo_play_110 : decode b_Mo_play 110 = .ok (.getfield 182, 3) := by decide +kernel
theorem d_Mo_play_113 : decode b_Mo_play 113 = .ok (.iconst 1, 1) := by decide +kernel
theorem d_Mo_play_114 : decode b_Mo_play 114 = .ok (.iadd, 1) := by decide +kernel
theorem d_Mo_play_115 : decode b_Mo_play 115 = .ok (.iaload, 1) := by decide +kernel
theorem d_Mo_play_116 : decode b_Mo_play 116 = .ok (.iadd, 1) := by decide +kernel
theorem d_Mo_play_117 : decode b_Mo_play 117 = .ok (.iload_n 3, 1) := by decide +kernel
theorem d_Mo_play_118 : decode b_Mo_play 118 = .ok (.iadd, 1) := by decide +kernel
theorem d_Mo_play_119 : decode b_Mo_play 119 = .ok (.dup2, 1) := by decide +kernel
theorem d_Mo_play_120 : decode b_Mo_play 120 = .ok (.iaload, 1) := by decide +kernel
theorem d_Mo_play_121 : decode b_Mo_play 121 = .ok (.iconst 1, 1) := by decide +kernel
theorem d_Mo_play_122 : decode b_Mo_play 122 = .ok (.iadd, 1) := by decide +kernel
theorem d_Mo_play_123 : decode b_Mo_play 123 = .ok (.iastore, 1) := by decide +kernel
theorem d_Mo_play_124 : decode b_Mo_play 124 = .ok (.iinc 3 1, 3) := by decide +kernel
theorem d_Mo_play_127 : decode b_Mo_play 127 = .ok (.goto (-64), 3) := by decide +kernel
theorem d_Mo_play_130 : decode b_Mo_play 130 = .ok (.aload_n 0, 1) := by decide +kernel
theorem d_Mo_play_131 : decode b_Mo_play 131 = .ok (.dup, 1) := by decide +kernel
theorem d_Mo_play_132 : decode b_Mo_play 132 = .ok (.getfield 182, 3) := by decide +kernel
theorem d_Mo_play_135 : decode b_Mo_play 135 = .ok (.iconst 5, 1) := by decide +kernel
theorem d_Mo_play_136 : decode b_Mo_play 136 = .ok (.iadd, 1) := by decide +kernel
theorem d_Mo_play_137 : decode b_Mo_play 137 = .ok (.putfield 182, 3) := by decide +kernel
theorem d_Mo_play_140 : decode b_Mo_play 140 = .ok (.iinc 2 1, 3) := by decide +kernel
theorem d_Mo_play_143 : decode b_Mo_play 143 = .ok (.goto (-136), 3) := by decide +kernel
theorem d_Mo_play_146 : decode b_Mo_play 146 = .ok (.iload_n 2, 1) := by decide +kernel
theorem d_Mo_play_147 : decode b_Mo_play 147 = .ok (.ireturn, 1) := by decide +kernel
theorem d_Mo_laid_0 : decode b_Mo_laid 0 = .ok (.aload_n 0, 1) := by decide +kernel
theorem d_Mo_laid_1 : decode b_Mo_laid 1 = .ok (.iconst 0, 1) := by decide +kernel
theorem d_Mo_laid_2 : decode b_Mo_laid 2 = .ok (.putfield 60, 3) := by decide +kernel
theorem d_Mo_laid_5 : decode b_Mo_laid 5 = .ok (.iload_n 1, 1) := by decide +kernel
theorem d_Mo_laid_6 : decode b_Mo_laid 6 = .ok (.iconst 0, 1) := by decide +kernel
theorem d_Mo_laid_7 : decode b_Mo_laid 7 = .ok (.bipush 23, 2) := by decide +kernel
theorem d_Mo_laid_9 : decode b_Mo_laid 9 = .ok (.invokestatic 66, 3) := by decide +kernel
theorem d_Mo_laid_12 : decode b_Mo_laid 12 = .ok (.ifCond .eq 43, 3) := by decide +kernel
theorem d_Mo_laid_15 : decode b_Mo_laid 15 = .ok (.iload_n 2, 1) := by decide +kernel
theorem d_Mo_laid_16 : decode b_Mo_laid 16 = .ok (.iconst 0, 1) := by decide +kernel
theorem d_Mo_laid_17 : decode b_Mo_laid 17 = .ok (.bipush 11, 2) := by decide +kernel
theorem d_Mo_laid_19 : decode b_Mo_laid 19 = .ok (.invokestatic 66, 3) := by decide +kernel
theorem d_Mo_laid_22 : decode b_Mo_laid 22 = .ok (.ifCond .eq 33, 3) := by decide +kernel
theorem d_Mo_laid_25 : decode b_Mo_laid 25 = .ok (.iload_n 3, 1) := by decide +kernel
theorem d_Mo_laid_26 : decode b_Mo_laid 26 = .ok (.iconst 0, 1) := by decide +kernel
theorem d_Mo_laid_27 : decode b_Mo_laid 27 = .ok (.bipush 11, 2) := by decide +kernel
theorem d_Mo_laid_29 : decode b_Mo_laid 29 = .ok (.invokestatic 66, 3) := by decide +kernel
theorem d_Mo_laid_32 : decode b_Mo_laid 32 = .ok (.ifCond .eq 23, 3) := by decide +kernel
theorem d_Mo_laid_35 : decode b_Mo_laid 35 = .ok (.aload_n 0, 1) := by decide +kernel
theorem d_Mo_laid_36 : decode b_Mo_laid 36 = .ok (.getfield 38, 3) := by decide +kernel
theorem d_Mo_laid_39 : decode b_Mo_laid 39 = .ok (.sipush 144, 3) := by decide +kernel
theorem d_Mo_laid_42 : decode b_Mo_laid 42 = .ok (.iload_n 1, 1) := by decide +kernel
theorem d_Mo_laid_43 : decode b_Mo_laid 43 = .ok (.imul, 1) := by decide +kernel
theorem d_Mo_laid_44 : decode b_Mo_laid 44 = .ok (.bipush 12, 2) := by decide +kernel
theorem d_Mo_laid_46 : decode b_Mo_laid 46 = .ok (.iload_n 3, 1) := by decide +kernel
theorem d_Mo_laid_47 : decode b_Mo_laid 47 = .ok (.imul, 1) := by decide +kernel
theorem d_Mo_laid_48 : decode b_Mo_laid 48 = .ok (.iadd, 1) := by decide +kernel
theorem d_Mo_laid_49 : decode b_Mo_laid 49 = .ok (.iload_n 2, 1) := by decide +kernel
theorem d_Mo_laid_50 : decode b_Mo_laid 50 = .ok (.iadd, 1) := by decide +kernel
theorem d_Mo_laid_51 : decode b_Mo_laid 51 = .ok (.iaload, 1) := by decide +kernel
theorem d_Mo_laid_52 : decode b_Mo_laid 52 = .ok (.goto 4, 3) := by decide +kernel
theorem d_Mo_laid_55 : decode b_Mo_laid 55 = .ok (.iconst 0, 1) := by decide +kernel
theorem d_Mo_laid_56 : decode b_Mo_laid 56 = .ok (.ireturn, 1) := by decide +kernel
