theorem d_So_rowBetweenSolid_0 : decode b_So_rowBetweenSolid 0 = .ok (.sipush 4095, 3) := by decide +kernel
theorem d_So_rowBetweenSolid_3 : decode b_So_rowBetweenSolid 3 = .ok (.istore 4, 2) := by decide +kernel
theorem d_So_rowBetweenSolid_5 : decode b_So_rowBetweenSolid 5 = .ok (.iconst 1, 1) := by decide +kernel
theorem d_So_rowBetweenSolid_6 : decode b_So_rowBetweenSolid 6 = .ok (.istore 5, 2) := by decide +kernel
theorem d_So_rowBetweenSolid_8 : decode b_So_rowBetweenSolid 8 = .ok (.iload 5, 2) := by decide +kernel
theorem d_So_rowBetweenSolid_10 : decode b_So_rowBetweenSolid 10 = .ok (.aload_n 0, 1) := by decide +kernel
theorem d_So_rowBetweenSolid_11 : decode b_So_rowBetweenSolid 11 = .ok (.getfield 24, 3) := by decide +kernel
theorem d_So_rowBetweenSolid_14 : decode b_So_rowBetweenSolid 14 = .ok (.if_icmp .gt 33, 3) := by decide +kernel
theorem d_So_rowBetweenSolid_17 : decode b_So_rowBetweenSolid 17 = .ok (.iload 4, 2) := by decide +kernel
theorem d_So_rowBetweenSolid_19 : decode b_So_rowBetweenSolid 19 = .ok (.aload_n 1, 1) := by decide +kernel
theorem d_So_rowBetweenSolid_20 : decode b_So_rowBetweenSolid 20 = .ok (.iload_n 2, 1) := by decide +kernel
theorem d_So_rowBetweenSolid_21 : decode b_So_rowBetweenSolid 21 = .ok (.iload 5, 2) := by decide +kernel
theorem d_So_rowBetweenSolid_23 : decode b_So_rowBetweenSolid 23 = .ok (.isub, 1) := by decide +kernel
theorem d_So_rowBetweenSolid_24 : decode b_So_rowBetweenSolid 24 = .ok (.iload_n 3, 1) := by decide +kernel
theorem d_So_rowBetweenSolid_25 : decode b_So_rowBetweenSolid 25 = .ok (.invokevirtual 53, 3) := by decide +kernel
theorem d_So_rowBetweenSolid_28 : decode b_So_rowBetweenSolid 28 = .ok (.aload_n 1, 1) := by decide +kernel
theorem d_So_rowBetweenSolid_29 : decode b_So_rowBetweenSolid 29 = .ok (.iload_n 2, 1) := by decide +kernel
theorem d_So_rowBetweenSolid_30 : decode b_So_rowBetweenSolid 30 = .ok (.iload 5, 2) := by decide +kernel
theorem d_So_rowBetweenSolid_32 : decode b_So_rowBetweenSolid 32 = .ok (.iadd, 1) := by decide +kernel
theorem d_So_rowBetweenSolid_33 : decode b_So_rowBetweenSolid 33 = .ok (.iload_n 3, 1) := by decide +kernel
theorem d_So_rowBetweenSolid_34 : decode b_So_rowBetweenSolid 34 = .ok (.invokevirtual 53, 3) := by decide +kernel
theorem d_So_rowBetweenSolid_37 : decode b_So_rowBetweenSolid 37 = .ok (.iand, 1) := by decide +kernel
theorem d_So_rowBetweenSolid_38 : decode b_So_rowBetweenSolid 38 = .ok (.iand, 1) := by decide +kernel
theorem d_So_rowBetweenSolid_39 : decode b_So_rowBetweenSolid 39 = .ok (.istore 4, 2) := by decide +kernel
theorem d_So_rowBetweenSolid_41 : decode b_So_rowBetweenSolid 41 = .ok (.iinc 5 1, 3) := by decide +kernel
theorem d_So_rowBetweenSolid_44 : decode b_So_rowBetweenSolid 44 = .ok (.goto (-36), 3) := by decide +kernel
theorem d_So_rowBetweenSolid_47 : decode b_So_rowBetweenSolid 47 = .ok (.iload 4, 2) := by decide +kernel
theorem d_So_rowBetweenSolid_49 : decode b_So_rowBetweenSolid 49 = .ok (.ireturn, 1) := by decide +kernel
theorem d_So_lineCells_0 : decode b_So_lineCells 0 = .ok (.aload_n 0, 1) := by decide +kernel
theorem d_So_lineCells_1 : decode b_So_lineCells 1 = .ok (.getfield 27, 3) := by decide +kernel
theorem d_So_lineCells_4 : decode b_So_lineCells 4 = .ok (.ifCond .ne 5, 3) := by decide +kernel
theorem d_So_lineCells_7 : decode b_So_lineCells 7 = .ok (.iconst 0, 1) := by decide +kernel
theorem d_So_lineCells_8 : decode b_So_lineCells 8 = .ok (.ireturn, 1) := by decide +kernel
theorem d_So_lineCells_9 : decode b_So_lineCells 9 = .ok (.iload_n 1, 1) := by decide +kernel
theorem d_So_lineCells_10 : decode b_So_lineCells 10 = .ok (.iconst 2, 1) := by decide +kernel
theorem d_So_lineCells_11 : decode b_So_lineCells 11 = .ok (.irem, 1) := by decide +kernel
theorem d_So_lineCells_12 : decode b_So_lineCells 12 = .ok (.iconst 1, 1) := by decide +kernel
theorem d_So_lineCells_13 : decode b_So_lineCells 13 = .ok (.if_icmp .ne 20, 3) := by decide +kernel
theorem d_So_lineCells_16 : decode b_So_lineCells 16 = .ok (.iload_n 2, 1) := by decide +kernel
theorem d_So_lineCells_17 : decode b_So_lineCells 17 = .ok (.aload_n 0, 1) := by decide +kernel
theorem d_So_lineCells_18 : decode b_So_lineCells 18 = .ok (.getfield 27, 3) := by decide +kernel
theorem d_So_lineCells_21 : decode b_So_lineCells 21 = .ok (.irem, 1) := by decide +kernel
theorem d_So_lineCells_22 : decode b_So_lineCells 22 = .ok (.ifCond .ne 9, 3) := by decide +kernel
theorem d_So_lineCells_25 : decode b_So_lineCells 25 = .ok (.sipush 4095, 3) := by decide +kernel
theorem d_So_lineCells_28 : decode b_So_lineCells 28 = .ok (.goto 4, 3) := by decide +kernel
theorem d_So_lineCells_31 : decode b_So_lineCells 31 = .ok (.iconst 0, 1) := by decide +kernel
theorem d_So_lineCells_32 : decode b_So_lineCells 32 = .ok (.ireturn, 1) := by decide +kernel
theorem d_So_lineCells_33 : decode b_So_lineCells 33 = .ok (.iconst 0, 1) := by decide +kernel
theorem d_So_lineCells_34 : decode b_So_lineCells 34 = .ok (.istore_n 3, 1) := by decide +kernel
theorem d_So_lineCells_35 : decode b_So_lineCells 35 = .ok (.iconst 0, 1) := by decide +kernel
theorem d_So_lineCells_36 : decode b_So_lineCells 36 = .ok (.istore 4, 2) := by decide +kernel
theorem d_So_lineCells_38 : decode b_So_lineCells 38 = .ok (.iload 4, 2) := by decide +kernel
theorem d_So_lineCells_40 : decode b_So_lineCells 40 = .ok (.bipush 12, 2) := by decide +kernel
theorem d_So_lineCells_42 : decode b_So_lineCells 42 = .ok (.if_icmp .ge 22, 3) := by decide +kernel
theorem d_So_lineCells_45 : decode b_So_lineCells 45 = .ok (.iload_n 3, 1) := by decide +kernel
theorem d_So_lineCells_46 : decode b_So_lineCells 46 = .ok (.iconst 1, 1) := by decide +kernel
theorem d_So_lineCells_47 : decode b_So_lineCells 47 = .ok (.iload 4, 2) := by decide +kernel
theorem d_So_lineCells_49 : decode b_So_lineCells 49 = .ok (.ishl, 1) := by decide +kernel
theorem d_So_lineCells_50 : decode b_So_lineCells 50 = .ok (.ior, 1) := by decide +kernel
theorem d_So_lineCells_51 : decode b_So_lineCells 51 = .ok (.istore_n 3, 1) := by decide +kernel
theorem d_So_lineCells_52 : decode b_So_lineCells 52 = .ok (.iload 4, 2) := by decide +kernel
theorem d_So_lineCells_54 : decode b_So_lineCells 54 = .ok (.aload_n 0, 1) := by decide +kernel
theorem d_So_lineCells_55 : decode b_So_lineCells 55 = .ok (.getfield 27, 3) := by decide +kernel
theorem d_So_lineCells_58 : decode b_So_lineCells 58 = .ok (.iadd, 1) := by decide +kernel
theorem d_So_lineCells_59 : decode b_So_lineCells 59 = .ok (.istore 4, 2) := by decide +kernel
theorem d_So_lineCells_61 : decode b_So_lineCells 61 = .ok (.goto (-23), 3) := by decide +kernel
theorem d_So_lineCells_64 : decode b_So_lineCells 64 = .ok (.iload_n 3, 1) := by decide +kernel
theorem d_So_lineCells_65 : decode b_So_lineCells 65 = .ok (.ireturn, 1) := by decide +kernel
theorem d_So_sortSolid_0 : decode b_So_sortSolid 0 = .ok (.iload_n 2, 1) := by decide +kernel
theorem d_So_sortSolid_1 : decode b_So_sortSolid 1 = .ok (.bipush 12, 2) := by decide +kernel
theorem d_So_sortSolid_3 : decode b_So_sortSolid 3 = .ok (.imul, 1) := by decide +kernel
theorem d_So_sortSolid_4 : decode b_So_sortSolid 4 = .ok (.iload_n 3, 1) := by decide +kernel
theorem d_So_sortSolid_5 : decode b_So_sortSolid 5 = .ok (.iadd, 1) := by decide +kernel
theorem d_So_sortSolid_6 : decode b_So_sortSolid 6 = .ok (.istore 4, 2) := by decide +kernel
theorem d_So_sortSolid_8 : decode b_So_sortSolid 8 = .ok (.aload_n 1, 1) := by decide +kernel
theorem d_So_sortSolid_9 : decode b_So_sortSolid 9 = .ok (.iload_n 2, 1) := by decide +kernel
theorem d_So_sortSolid_10 : decode b_So_sortSolid 10 = .ok (.iload_n 3, 1) := by decide +kernel
theorem d_So_sortSolid_11 : decode b_So_sortSolid 11 = .ok (.invokevirtual 53, 3) := by decide +kernel
theorem d_So_sortSolid_14 : decode b_So_sortSolid 14 = .ok (.istore 5, 2) := by decide +kernel
theorem d_So_sortSolid_16 : decode b_So_sortSolid 16 = .ok (.iload 5, 2) := by decide +kernel
theorem d_So_sortSolid_18 : decode b_So_sortSolid 18 = .ok (.aload_n 1, 1) := by decide +kernel
theorem d_So_sortSolid_19 : decode b_So_sortSolid 19 = .ok (.iload_n 2, 1) := by decide +kernel
theorem d_So_sortSolid_20 : decode b_So_sortSolid 20 = .ok (.iload_n 3, 1) := by decide +kernel
theorem d_So_sortSolid_21 : decode b_So_sortSolid 21 = .ok (.aload_n 0, 1) := by decide +kernel
theorem d_So_sortSolid_22 : decode b_So_sortSolid 22 = .ok (.getfield 20, 3) := by decide +kernel
theorem d_So_sortSolid_25 : decode b_So_sortSolid 25 = .ok (.invokevirtual 57, 3) := by decide +kernel
theorem d_So_sortSolid_28 : decode b_So_sortSolid 28 = .ok (.iand, 1) := by decide +kernel
theorem d_So_sortSolid_29 : decode b_So_sortSolid 29 = .ok (.istore 6, 2) := by decide +kernel
theorem d_So_sortSolid_31 : decode b_So_sortSolid 31 = .ok (.iload 6, 2) := by decide +kernel
theorem d_So_sortSolid_33 : decode b_So_sortSolid 33 = .ok (.aload_n 0, 1) := by decide +kernel
theorem d_So_sortSolid_34 : decode b_So_sortSolid 34 = .ok (.aload_n 1, 1) := by decide +kernel
theorem d_So_sortSolid_35 : decode b_So_sortSolid 35 = .ok (.iload_n 2, 1) := by decide +kernel
theorem d_So_sortSolid_36 : decode b_So_sortSolid 36 = .ok (.iload_n 3, 1) := by decide +kernel
theorem d_So_sortSolid_37 : decode b_So_sortSolid 37 = .ok (.invokevirtual 61, 3) := by decide +kernel
theorem d_So_sortSolid_40 : decode b_So_sortSolid 40 = .ok (.iand, 1) := by decide +kernel
theorem d_So_sortSolid_41 : decode b_So_sortSolid 41 = .ok (.istore 7, 2) := by decide +kernel
theorem d_So_sortSolid_43 : decode b_So_sortSolid 43 = .ok (.aload_n 0, 1) := by decide +kernel
theorem d_So_sortSolid_44 : decode b_So_sortSolid 44 = .ok (.iload_n 2, 1) := by decide +kernel
theorem d_So_sortSolid_45 : decode b_So_sortSolid 45 = .ok (.iload_n 3, 1) := by decide +kernel
theorem d_So_sortSolid_46 : decode b_So_sortSolid 46 = .ok (.invokevirtual 65, 3) := by decide +kernel
theorem d_So_sortSolid_49 : decode b_So_sortSolid 49 = .ok (.istore 8, 2) := by decide +kernel
theorem d_So_sortSolid_51 : decode b_So_sortSolid 51 = .ok (.aload_n 0, 1) := by decide +kernel
theorem d_So_sortSolid_52 : decode b_So_sortSolid 52 = .ok (.getfield 11, 3) := by decide +kernel
theorem d_So_sortSolid_55 : decode b_So_sortSolid 55 = .ok (.iconst 1, 1) := by decide +kernel
theorem d_So_sortSolid_56 : decode b_So_sortSolid 56 = .ok (.aaload, 1) := by decide +kernel
theorem d_So_sortSolid_57 : decode b_So_sortSolid 57 = .ok (.iload 4, 2) := by decide +kernel
theorem d_So_sortSolid_59 : decode b_So_sortSolid 59 = .ok (.iload 5, 2) := by decide +kernel
theorem d_So_sortSolid_61 : decode b_So_sortSolid 61 = .ok (.iload 6, 2) := by decide +kernel
theorem d_So_sortSolid_63 : decode b_So_sortSolid 63 = .ok (.iconst (-1), 1) := by decide +kernel
theorem d_So_sortSolid_64 : decode b_So_sortSolid 64 = .ok (.ixor, 1) := by decide +kernel
theorem d_So_sortSolid_65 : decode b_So_sortSolid 65 = .ok (.iand, 1) := by decide +kernel
theorem d_So_sortSolid_66 : decode b_So_sortSolid 66 = .ok (.iastore, 1) := by decide +kernel
theorem d_So_sortSolid_67 : decode b_So_sortSolid 67 = .ok (.aload_n 0, 1) := by decide +kernel
theorem d_So_sortSolid_68 : decode b_So_sortSolid 68 = .ok (.getfield 11, 3) := by decide +kernel
theorem d_So_sortSolid_71 : decode b_So_sortSolid 71 = .ok (.iconst 2, 1) := by decide +kernel
theorem d_So_sortSolid_72 : decode b_So_sortSolid 72 = .ok (.aaload, 1) := by decide +kernel
theorem d_So_sortSolid_73 : decode b_So_sortSolid 73 = .ok (.iload 4, 2) := by decide +kernel
theorem d_So_sortSolid_75 : decode b_So_sortSolid 75 = .ok (.iload 6, 2) := by decide +kernel
theorem d_So_sortSolid_77 : decode b_So_sortSolid 77 = .ok (.iload 7, 2) := by decide +kernel
theorem d_So_sortSolid_79 : decode b_So_sortSolid 79 = .ok (.iconst (-1), 1) := by decide +kernel
theorem d_So_sortSolid_80 : decode b_So_sortSolid 80 = .ok (.ixor, 1) := by decide +kernel
theorem d_So_sortSolid_81 : decode b_So_sortSolid 81 = .ok (.iand, 1) := by decide +kernel
theorem d_So_sortSolid_82 : decode b_So_sortSolid 82 = .ok (.iastore, 1) := by decide +kernel
theorem d_So_sortSolid_83 : decode b_So_sortSolid 83 = .ok (.aload_n 0, 1) := by decide +kernel
theorem d_So_sortSolid_84 : decode b_So_sortSolid 84 = .ok (.getfield 11, 3) := by decide +kernel
theorem d_So_sortSolid_87 : decode b_So_sortSolid 87 = .ok (.iconst 3, 1) := by decide +kernel
theorem d_So_sortSolid_88 : decode b_So_sortSolid 88 = .ok (.aaload, 1) := by decide +kernel
theorem d_So_sortSolid_89 : decode b_So_sortSolid 89 = .ok (.iload 4, 2) := by decide +kernel
theorem d_So_sortSolid_91 : decode b_So_sortSolid 91 = .ok (.iload 7, 2) := by decide +kernel
theorem d_So_sortSolid_93 : decode b_So_sortSolid 93 = .ok (.iload 8, 2) := by decide +kernel
theorem d_So_sortSolid_95 : decode b_So_sortSolid 95 = .ok (.iand, 1) := by decide +kernel
theorem d_So_sortSolid_96 : decode b_So_sortSolid 96 = .ok (.iastore, 1) := by decide +kernel
theorem d_So_sortSolid_97 : decode b_So_sortSolid 97 = .ok (.aload_n 0, 1) := by decide +kernel
theorem d_So_sortSolid_98 : decode b_So_sortSolid 98 = .ok (.getfield 11, 3) := by decide +kernel
theorem d_So_sortSolid_101 : decode b_So_sortSolid 101 = .ok (.iconst 4, 1) := by decide +kernel
theorem d_So_sortSolid_102 : decode b_So_sortSolid 102 = .ok (.aaload, 1) := by decide +kernel
theorem d_So_sortSolid_103 : decode b_So_sortSolid 103 = .ok (.iload 4, 2) := by decide +kernel
theorem d_So_sortSolid_105 : decode b_So_sortSolid 105 = .ok (.iload 7, 2) := by decide +kernel
theorem d_So_sortSolid_107 : decode b_So_sortSolid 107 = .ok (.iload 8, 2) := by decide +kernel
theorem d_So_sortSolid_109 : decode b_So_sortSolid 109 = .ok (.iconst (-1), 1) := by decide +kernel
theorem d_So_sortSolid_110 : decode b_So_sortSolid 110 = .ok (.ixor, 1) := by decide +kernel
theorem d_So_sortSolid_111 : decode b_So_sortSolid 111 = .ok (.iand, 1) := by decide +kernel
theorem d_So_sortSolid_112 : decode b_So_sortSolid 112 = .ok (.iastore, 1) := by decide +kernel
theorem d_So_sortSolid_113 : decode b_So_sortSolid 113 = .ok (.aload_n 0, 1) := by decide +kernel
theorem d_So_sortSolid_114 : decode b_So_sortSolid 114 = .ok (.getfield 16, 3) := by decide +kernel
theorem d_So_sortSolid_117 : decode b_So_sortSolid 117 = .ok (.iload 4, 2) := by decide +kernel
theorem d_So_sortSolid_119 : decode b_So_sortSolid 119 = .ok (.iload_n 2, 1) := by decide +kernel
theorem d_So_sortSolid_120 : decode b_So_sortSolid 120 = .ok (.ifCond .le 23, 3) := by decide +kernel
theorem d_So_sortSolid_123 : decode b_So_sortSolid 123 = .ok (.iload 5, 2) := by decide +kernel
theorem d_So_sortSolid_125 : decode b_So_sortSolid 125 = .ok (.aload_n 1, 1) := by decide +kernel
theorem d_So_sortSolid_126 : decode b_So_sortSolid 126 = .ok (.iload_n 2, 1) := by decide +kernel
theorem d_So_sortSolid_127 : decode b_So_sortSolid 127 = .ok (.iconst 1, 1) := by decide +kernel
theorem d_So_sortSolid_128 : decode b_So_sortSolid 128 = .ok (.isub, 1) := by decide +kernel
theorem d_So_sortSolid_129 : decode b_So_sortSolid 129 = .ok (.iload_n 3, 1) := by decide +kernel
theorem d_So_sortSolid_130 : decode b_So_sortSolid 130 = .ok (.aload_n 0, 1) := by decide +kernel
theorem d_So_sortSolid_131 : decode b_So_sortSolid 131 = .ok (.getfield 30, 3) := by decide +kernel
theorem d_So_sortSolid_134 : decode b_So_sortSolid 134 = .ok (.invokevirtual 68, 3) := by decide +kernel
theorem d_So_sortSolid_137 : decode b_So_sortSolid 137 = .ok (.iconst (-1), 1) := by decide +kernel
theorem d_So_sortSolid_138 : decode b_So_sortSolid 138 = .ok (.ixor, 1) := by decide +kernel
theorem d_So_sortSolid_139 : decode b_So_sortSolid 139 = .ok (.iand, 1) := by decide +kernel
theorem d_So_sortSolid_140 : decode b_So_sortSolid 140 = .ok (.goto 4, 3) := by decide +kernel
theorem d_So_sortSolid_143 : decode b_So_sortSolid 143 = .ok (.iconst 0, 1) := by decide +kernel
theorem d_So_sortSolid_144 : decode b_So_sortSolid 144 = .ok (.iastore, 1) := by decide +kernel
theorem d_So_sortSolid_145 : decode b_So_sortSolid 145 = .ok (.return_, 1) := by decide +kernel
theorem d_So_sortOpen_0 : decode b_So_sortOpen 0 = .ok (.iload_n 2, 1) := by decide +kernel
theorem d_So_sortOpen_1 : decode b_So_sortOpen 1 = .ok (.bipush 12, 2) := by decide +kernel
theorem d_So_sortOpen_3 : decode b_So_sortOpen 3 = .ok (.imul, 1) := by decide +kernel
theorem d_So_sortOpen_4 : decode b_So_sortOpen 4 = .ok (.iload_n 3, 1) := by decide +kernel
theorem d_So_sortOpen_5 : decode b_So_sortOpen 5 = .ok (.iadd, 1) := by decide +kernel
theorem d_So_sortOpen_6 : decode b_So_sortOpen 6 = .ok (.istore 5, 2) := by decide +kernel
theorem d_So_sortOpen_8 : decode b_So_sortOpen 8 = .ok (.sipush 4095, 3) := by decide +kernel
theorem d_So_sortOpen_11 : decode b_So_sortOpen 11 = .ok (.aload_n 1, 1) := by decide +kernel
theorem d_So_sortOpen_12 : decode b_So_sortOpen 12 = .ok (.iload_n 2, 1) := by decide +kernel
theorem d_So_sortOpen_13 : decode b_So_sortOpen 13 = .ok (.iload_n 3, 1) := by decide +kernel
theorem d_So_sortOpen_14 : decode b_So_sortOpen 14 = .ok (.invokevirtual 53, 3) := by decide +kernel
theorem d_So_sortOpen_17 : decode b_So_sortOpen 17 = .ok (.iconst (-1), 1) := by decide +kernel
theorem d_So_sortOpen_18 : decode b_So_sortOpen 18 = .ok (.ixor, 1) := by decide +kernel
theorem d_So_sortOpen_19 : decode b_So_sortOpen 19 = .ok (.iand, 1) := by decide +kernel
theorem d_So_sortOpen_20 : decode b_So_sortOpen 20 = .ok (.istore 6, 2) := by decide +kernel
theorem d_So_sortOpen_22 : decode b_So_sortOpen 22 = .ok (.iload 6, 2) := by decide +kernel
theorem d_So_sortOpen_24 : decode b_So_sortOpen 24 = .ok (.iload 4, 2) := by decide +kernel
theorem d_So_sortOpen_26 : decode b_So_sortOpen 26 = .ok (.iand, 1) := by decide +kernel
theorem d_So_sortOpen_27 : decode b_So_sortOpen 27 = .ok (.istore 7, 2) := by decide +kernel
theorem d_So_sortOpen_29 : decode b_So_sortOpen 29 = .ok (.aload_n 1, 1) := by decide +kernel
theorem d_So_sortOpen_30 : decode b_So_sortOpen 30 = .ok (.iload_n 2, 1) := by decide +kernel
theorem d_So_sortOpen_31 : decode b_So_sortOpen 31 = .ok (.iload_n 3, 1) := by decide +kernel
theorem d_So_sortOpen_32 : decode b_So_sortOpen 32 = .ok (.aload_n 0, 1) := by decide +kernel
theorem d_So_sortOpen_33 : decode b_So_sortOpen 33 = .ok (.getfield 33, 3) := by decide +kernel
theorem d_So_sortOpen_36 : decode b_So_sortOpen 36 = .ok (.invokevirtual 68, 3) := by decide +kernel
theorem d_So_sortOpen_39 : decode b_So_sortOpen 39 = .ok (.istore 8, 2) := by decide +kernel
theorem d_So_sortOpen_41 : decode b_So_sortOpen 41 = .ok (.aload_n 0, 1) := by decide +kernel
theorem d_So_sortOpen_42 : decode b_So_sortOpen 42 = .ok (.getfield 11, 3) := by decide +kernel
theorem d_So_sortOpen_45 : decode b_So_sortOpen 45 = .ok (.iconst 5, 1) := by decide +kernel
theorem d_So_sortOpen_46 : decode b_So_sortOpen 46 = .ok (.aaload, 1) := by decide +kernel
theorem d_So_sortOpen_47 : decode b_So_sortOpen 47 = .ok (.iload 5, 2) := by decide +kernel
theorem d_So_sortOpen_49 : decode b_So_sortOpen 49 = .ok (.iload 7, 2) := by decide +kernel
theorem d_So_sortOpen_51 : decode b_So_sortOpen 51 = .ok (.iload 8, 2) := by decide +kernel
theorem d_So_sortOpen_53 : decode b_So_sortOpen 53 = .ok (.iconst (-1), 1) := by decide +kernel
theorem d_So_sortOpen_54 : decode b_So_sortOpen 54 = .ok (.ixor, 1) := by decide +kernel
theorem d_So_sortOpen_55 : decode b_So_sortOpen 55 = .ok (.iand, 1) := by decide +kernel
theorem d_So_sortOpen_56 : decode b_So_sortOpen 56 = .ok (.iastore, 1) := by decide +kernel
theorem d_So_sortOpen_57 : decode b_So_sortOpen 57 = .ok (.aload_n 0, 1) := by decide +kernel
theorem d_So_sortOpen_58 : decode b_So_sortOpen 58 = .ok (.getfield 11, 3) := by decide +kernel
theorem d_So_sortOpen_61 : decode b_So_sortOpen 61 = .ok (.bipush 6, 2) := by decide +kernel
theorem d_So_sortOpen_63 : decode b_So_sortOpen 63 = .ok (.aaload, 1) := by decide +kernel
theorem d_So_sortOpen_64 : decode b_So_sortOpen 64 = .ok (.iload 5, 2) := by decide +kernel
theorem d_So_sortOpen_66 : decode b_So_sortOpen 66 = .ok (.iload 7, 2) := by decide +kernel
theorem d_So_sortOpen_68 : decode b_So_sortOpen 68 = .ok (.iload 8, 2) := by decide +kernel
theorem d_So_sortOpen_70 : decode b_So_sortOpen 70 = .ok (.iand, 1) := by decide +kernel
theorem d_So_sortOpen_71 : decode b_So_sortOpen 71 = .ok (.iastore, 1) := by decide +kernel
theorem d_So_sortOpen_72 : decode b_So_sortOpen 72 = .ok (.aload_n 0, 1) := by decide +kernel
theorem d_So_sortOpen_73 : decode b_So_sortOpen 73 = .ok (.getfield 11, 3) := by decide +kernel
theorem d_So_sortOpen_76 : decode b_So_sortOpen 76 = .ok (.iconst 0, 1) := by decide +kernel
theorem d_So_sortOpen_77 : decode b_So_sortOpen 77 = .ok (.aaload, 1) := by decide +kernel
theorem d_So_sortOpen_78 : decode b_So_sortOpen 78 = .ok (.iload 5, 2) := by decide +kernel
theorem d_So_sortOpen_80 : decode b_So_sortOpen 80 = .ok (.iload 6, 2) := by decide +kernel
theorem d_So_sortOpen_82 : decode b_So_sortOpen 82 = .ok (.iload 7, 2) := by decide +kernel
theorem d_So_sortOpen_84 : decode b_So_sortOpen 84 = .ok (.iconst (-1), 1) := by decide +kernel
theorem d_So_sortOpen_85 : decode b_So_sortOpen 85 = .ok (.ixor, 1) := by decide +kernel
theorem d_So_sortOpen_86 : decode b_So_sortOpen 86 = .ok (.iand, 1) := by decide +kernel
theorem d_So_sortOpen_87 : decode b_So_sortOpen 87 = .ok (.iastore, 1) := by decide +kernel
theorem d_So_sortOpen_88 : decode b_So_sortOpen 88 = .ok (.return_, 1) := by decide +kernel
theorem d_So_sortCells_0 : decode b_So_sortCells 0 = .ok (.iconst 0, 1) := by decide +kernel
theorem d_So_sortCells_1 : decode b_So_sortCells 1 = .ok (.istore_n 2, 1) := by decide +kernel
theorem d_So_sortCells_2 : decode b_So_sortCells 2 = .ok (.iload_n 2, 1) := by decide +kernel
theorem d_So_sortCells_3 : decode b_So_sortCells 3 = .ok (.bipush 12, 2) := by decide +kernel
theorem d_So_sortCells_5 : decode b_So_sortCells 5 = .ok (.if_icmp .ge 72, 3) := by decide +kernel
theorem d_So_sortCells_8 : decode b_So_sortCells 8 = .ok (.iconst 0, 1) := by decide +kernel
theorem d_So_sortCells_9 : decode b_So_sortCells 9 = .ok (.istore_n 3, 1) := by decide +kernel
theorem d_So_sortCells_10 : decode b_So_sortCells 10 = .ok (.aload_n 1, 1) := by decide +kernel
theorem d_So_sortCells_11 : decode b_So_sortCells 11 = .ok (.getfield 40, 3) := by decide +kernel
theorem d_So_sortCells_14 : decode b_So_sortCells 14 = .ok (.iconst 1, 1) := by decide +kernel
theorem d_So_sortCells_15 : decode b_So_sortCells 15 = .ok (.isub, 1) := by decide +kernel
theorem d_So_sortCells_16 : decode b_So_sortCells 16 = .ok (.istore 4, 2) := by decide +kernel
theorem d_So_sortCells_18 : decode b_So_sortCells 18 = .ok (.iload 4, 2) := by decide +kernel
theorem d_So_sortCells_20 : decode b_So_sortCells 20 = .ok (.ifCond .lt 51, 3) := by decide +kernel
theorem d_So_sortCells_23 : decode b_So_sortCells 23 = .ok (.aload_n 0, 1) := by decide +kernel
theorem d_So_sortCells_24 : decode b_So_sortCells 24 = .ok (.aload_n 1, 1) := by decide +kernel
theorem d_So_sortCells_25 : decode b_So_sortCells 25 = .ok (.iload 4, 2) := by decide +kernel
theorem d_So_sortCells_27 : decode b_So_sortCells 27 = .ok (.iload_n 2, 1) := by decide +kernel
theorem d_So_sortCells_28 : decode b_So_sortCells 28 = .ok (.invokevirtual 45, 3) := by decide +kernel
theorem d_So_sortCells_31 : decode b_So_sortCells 31 = .ok (.aload_n 0, 1) := by decide +kernel
theorem d_So_sortCells_32 : decode b_So_sortCells 32 = .ok (.aload_n 1, 1) := by decide +kernel
theorem d_So_sortCells_33 : decode b_So_sortCells 33 = .ok (.iload 4, 2) := by decide +kernel
theorem d_So_sortCells_35 : decode b_So_sortCells 35 = .ok (.iload_n 2, 1) := by decide +kernel
theorem d_So_sortCells_36 : decode b_So_sortCells 36 = .ok (.iload_n 3, 1) := by decide +kernel
theorem d_So_sortCells_37 : decode b_So_sortCells 37 = .ok (.invokevirtual 49, 3) := by decide +kernel
theorem d_So_sortCells_40 : decode b_So_sortCells 40 = .ok (.iload_n 3, 1) := by decide +kernel
theorem d_So_sortCells_41 : decode b_So_sortCells 41 = .ok (.aload_n 1, 1) := by decide +kernel
theorem d_So_sortCells_42 : decode b_So_sortCells 42 = .ok (.iload 4, 2) := by decide +kernel
theorem d_So_sortCells_44 : decode b_So_sortCells 44 = .ok (.iload_n 2, 1) := by decide +kernel
theorem d_So_sortCells_45 : decode b_So_sortCells 45 = .ok (.invokevirtual 53, 3) := by decide +kernel
theorem d_So_sortCells_48 : decode b_So_sortCells 48 = .ok (.iconst (-1), 1) := by decide +kernel
theorem d_So_sortCells_49 : decode b_So_sortCells 49 = .ok (.ixor, 1) := by decide +kernel
theorem d_So_sortCells_50 : decode b_So_sortCells 50 = .ok (.iand, 1) := by decide +kernel
theorem d_So_sortCells_51 : decode b_So_sortCells 51 = .ok (.aload_n 0, 1) := by decide +kernel
theorem d_So_sortCells_52 : decode b_So_sortCells 52 = .ok (.getfield 16, 3) := by decide +kernel
theorem d_So_sortCells_55 : decode b_So_sortCells 55 = .ok (.iload 4, 2) := by decide +kernel
theorem d_So_sortCells_57 : decode b_So_sortCells 57 = .ok (.bipush 12, 2) := by decide +kernel
theorem d_So_sortCells_59 : decode b_So_sortCells 59 = .ok (.imul, 1) := by decide +kernel
theorem d_So_sortCells_60 : decode b_So_sortCells 60 = .ok (.iload_n 2, 1) := by decide +kernel
theorem d_So_sortCells_61 : decode b_So_sortCells 61 = .ok (.iadd, 1) := by decide +kernel
theorem d_So_sortCells_62 : decode b_So_sortCells 62 = .ok (.iaload, 1) := by decide +kernel
theorem d_So_sortCells_63 : decode b_So_sortCells 63 = .ok (.ior, 1) := by decide +kernel
theorem d_So_sortCells_64 : decode b_So_sortCells 64 = .ok (.istore_n 3, 1) := by decide +kernel
theorem d_So_sortCells_65 : decode b_So_sortCells 65 = .ok (.iinc 4 (-1), 3) := by decide +kernel
theorem d_So_sortCells_68 : decode b_So_sortCells 68 = .ok (.goto (-50), 3) := by decide +kernel
theorem d_So_sortCells_71 : decode b_So_sortCells 71 = .ok (.iinc 2 1, 3) := by decide +kernel
theorem d_So_sortCells_74 : decode b_So_sortCells 74 = .ok (.goto (-72), 3) := by decide +kernel
theorem d_So_sortCells_77 : decode b_So_sortCells 77 = .ok (.return_, 1) := by decide +kernel
theorem d_So_upTo_0 : decode b_So_upTo 0 = .ok (.iload_n 1, 1) := by decide +kernel
theorem d_So_upTo_1 : decode b_So_upTo 1 = .ok (.ifCond .lt 12, 3) := by decide +kernel
theorem d_So_upTo_4 : decode b_So_upTo 4 = .ok (.iload_n 1, 1) := by decide +kernel
theorem d_So_upTo_5 : decode b_So_upTo 5 = .ok (.iload_n 0, 1) := by decide +kernel
theorem d_So_upTo_6 : decode b_So_upTo 6 = .ok (.if_icmp .gt 7, 3) := by decide +kernel
theorem d_So_upTo_9 : decode b_So_upTo 9 = .ok (.iconst 1, 1) := by decide +kernel
theorem d_So_upTo_10 : decode b_So_upTo 10 = .ok (.goto 4, 3) := by decide +kernel
theorem d_So_upTo_13 : decode b_So_upTo 13 = .ok (.iconst 0, 1) := by decide +kernel
theorem d_So_upTo_14 : decode b_So_upTo 14 = .ok (.ireturn, 1) := by decide +kernel
theorem d_So_accept_0 : decode b_So_accept 0 = .ok (.iconst 3, 1) := by decide +kernel
theorem d_So_accept_1 : decode b_So_accept 1 = .ok (.iload_n 1, 1) := by decide +kernel
theorem d_So_accept_2 : decode b_So_accept 2 = .ok (.invokestatic 36, 3) := by decide +kernel
theorem d_So_accept_5 : decode b_So_accept 5 = .ok (.ifCond .eq 38, 3) := by decide +kernel
theorem d_So_accept_8 : decode b_So_accept 8 = .ok (.iconst 3, 1) := by decide +kernel
theorem d_So_accept_9 : decode b_So_accept 9 = .ok (.iload_n 2, 1) := by decide +kernel
theorem d_So_accept_10 : decode b_So_accept 10 = .ok (.invokestatic 36, 3) := by decide +kernel
theorem d_So_accept_13 : decode b_So_accept 13 = .ok (.ifCond .eq 30, 3) := by decide +kernel
theorem d_So_accept_16 : decode b_So_accept 16 = .ok (.bipush 6, 2) := by decide +kernel
theorem d_So_accept_18 : decode b_So_accept 18 = .ok (.iload_n 3, 1) := by decide +kernel
theorem d_So_accept_19 : decode b_So_accept 19 = .ok (.invokestatic 36, 3) := by decide +kernel
theorem d_So_accept_22 : decode b_So_accept 22 = .ok (.ifCond .eq 21, 3) := by decide +kernel
theorem d_So_accept_25 : decode b_So_accept 25 = .ok (.iconst 3, 1) := by decide +kernel
theorem d_So_accept_26 : decode b_So_accept 26 = .ok (.iload 4, 2) := by decide +kernel
theorem d_So_accept_28 : decode b_So_accept 28 = .ok (.invokestatic 36, 3) := by decide +kernel
theorem d_So_accept_31 : decode b_So_accept 31 = .ok (.ifCond .eq 12, 3) := by decide +kernel
theorem d_So_accept_34 : decode b_So_accept 34 = .ok (.iconst 2, 1) := by decide +kernel
theorem d_So_accept_35 : decode b_So_accept 35 = .ok (.iload 5, 2) := by decide +kernel
theorem d_So_accept_37 : decode b_So_accept 37 = .ok (.invokestatic 36, 3) := by decide +kernel
theorem d_So_accept_40 : decode b_So_accept 40 = .ok (.ifCond .ne 5, 3) := by decide +kernel
theorem d_So_accept_43 : decode b_So_accept 43 = .ok (.iconst 0, 1) := by decide +kernel
theorem d_So_accept_44 : decode b_So_accept 44 = .ok (.ireturn, 1) := by decide +kernel
theorem d_So_accept_45 : decode b_So_accept 45 = .ok (.aload_n 0, 1) := by decide +kernel
theorem d_So_accept_46 : decode b_So_accept 46 = .ok (.iload_n 1, 1) := by decide +kernel
theorem d_So_accept_47 : decode b_So_accept 47 = .ok (.putfield 20, 3) := by decide +kernel
theorem d_So_accept_50 : decode b_So_accept 50 = .ok (.aload_n 0, 1) := by decide +kernel
theorem d_So_accept_51 : decode b_So_accept 51 = .ok (.iload_n 2, 1) := by decide +kernel
theorem d_So_accept_52 : decode b_So_accept 52 = .ok (.putfield 24, 3) := by decide +kernel
theorem d_So_accept_55 : decode b_So_accept 55 = .ok (.aload_n 0, 1) := by decide +kernel
theorem d_So_accept_56 : decode b_So_accept 56 = .ok (.iload_n 3, 1) := by decide +kernel
theorem d_So_accept_57 : decode b_So_accept 57 = .ok (.putfield 27, 3) := by decide +kernel
theorem d_So_accept_60 : decode b_So_accept 60 = .ok (.aload_n 0, 1) := by decide +kernel
theorem d_So_accept_61 : decode b_So_accept 61 = .ok (.iload 4, 2) := by decide +kernel
theorem d_So_accept_63 : decode b_So_accept 63 = .ok (.putfield 30, 3) := by decide +kernel
theorem d_So_accept_66 : decode b_So_accept 66 = .ok (.aload_n 0, 1) := by decide +kernel
theorem d_So_accept_67 : decode b_So_accept 67 = .ok (.iload 5, 2) := by decide +kernel
theorem d_So_accept_69 : decode b_So_accept 69 = .ok (.putfield 33, 3) := by decide +kernel
theorem d_So_accept_72 : decode b_So_accept 72 = .ok (.iconst 1, 1) := by decide +kernel
theorem d_So_accept_73 : decode b_So_accept 73 = .ok (.ireturn, 1) := by decide +kernel
theorem d_So_kindAt_0 : decode b_So_kindAt 0 = .ok (.iconst 1, 1) := by decide +kernel
theorem d_So_kindAt_1 : decode b_So_kindAt 1 = .ok (.istore 4, 2) := by decide +kernel
theorem d_So_kindAt_3 : decode b_So_kindAt 3 = .ok (.iload 4, 2) := by decide +kernel
theorem d_So_kindAt_5 : decode b_So_kindAt 5 = .ok (.bipush 7, 2) := by decide +kernel
theorem d_So_kindAt_7 : decode b_So_kindAt 7 = .ok (.if_icmp .ge 34, 3) := by decide +kernel
theorem d_So_kindAt_10 : decode b_So_kindAt 10 = .ok (.aload_n 0, 1) := by decide +kernel
theorem d_So_kindAt_11 : decode b_So_kindAt 11 = .ok (.getfield 11, 3) := by decide +kernel
theorem d_So_kindAt_14 : decode b_So_kindAt 14 = .ok (.iload 4, 2) := by decide +kernel
theorem d_So_kindAt_16 : decode b_So_kindAt 16 = .ok (.aaload, 1) := by decide +kernel
theorem d_So_kindAt_17 : decode b_So_kindAt 17 = .ok (.iload_n 1, 1) := by decide +kernel
theorem d_So_kindAt_18 : decode b_So_kindAt 18 = .ok (.bipush 12, 2) := by decide +kernel
theorem d_So_kindAt_20 : decode b_So_kindAt 20 = .ok (.imul, 1) := by decide +kernel
theorem d_So_kindAt_21 : decode b_So_kindAt 21 = .ok (.iload_n 3, 1) := by decide +kernel
theorem d_So_kindAt_22 : decode b_So_kindAt 22 = .ok (.iadd, 1) := by decide +kernel
theorem d_So_kindAt_23 : decode b_So_kindAt 23 = .ok (.iaload, 1) := by decide +kernel
theorem d_So_kindAt_24 : decode b_So_kindAt 24 = .ok (.iload_n 2, 1) := by decide +kernel
theorem d_So_kindAt_25 : decode b_So_kindAt 25 = .ok (.ishr, 1) := by decide +kernel
theorem d_So_kindAt_26 : decode b_So_kindAt 26 = .ok (.iconst 1, 1) := by decide +kernel
theorem d_So_kindAt_27 : decode b_So_kindAt 27 = .ok (.iand, 1) := by decide +kernel
theorem d_So_kindAt_28 : decode b_So_kindAt 28 = .ok (.iconst 1, 1) := by decide +kernel
theorem d_So_kindAt_29 : decode b_So_kindAt 29 = .ok (.if_icmp .ne 6, 3) := by decide +kernel
theorem d_So_kindAt_32 : decode b_So_kindAt 32 = .ok (.iload 4, 2) := by decide +kernel
theorem d_So_kindAt_34 : decode b_So_kindAt 34 = .ok (.ireturn, 1) := by decide +kernel
theorem d_So_kindAt_35 : decode b_So_kindAt 35 = .ok (.iinc 4 1, 3) := by decide +kernel
theorem d_So_kindAt_38 : decode b_So_kindAt 38 = .ok (.goto (-35), 3) := by decide +kernel
theorem d_So_kindAt_41 : decode b_So_kindAt 41 = .ok (.iconst 0, 1) := by decide +kernel
theorem d_So_kindAt_42 : decode b_So_kindAt 42 = .ok (.ireturn, 1) := by decide +kernel
theorem d_So_init_0 : decode b_So_init 0 = .ok (.aload_n 0, 1) := by decide +kernel
theorem d_So_init_1 : decode b_So_init 1 = .ok (.invokespecial 3, 3) := by decide +kernel
theorem d_So_init_4 : decode b_So_init 4 = .ok (.aload_n 0, 1) := by decide +kernel
theorem d_So_init_5 : decode b_So_init 5 = .ok (.bipush 7, 2) := by decide +kernel
theorem d_So_init_7 : decode b_So_init 7 = .ok (.sipush 288, 3) := by decide +kernel
theorem d_So_init_10 : decode b_So_init 10 = .ok (.multianewarray 9 2, 4) := by decide +kernel
theorem d_So_init_14 : decode b_So_init 14 = .ok (.putfield 11, 3) := by decide +kernel
theorem d_So_init_17 : decode b_So_init 17 = .ok (.aload_n 0, 1) := by decide +kernel
theorem d_So_init_18 : decode b_So_init 18 = .ok (.sipush 288, 3) := by decide +kernel
theorem d_So_init_21 : decode b_So_init 21 = .ok (.newarray .int, 2) := by decide +kernel
theorem d_So_init_23 : decode b_So_init 23 = .ok (.putfield 16, 3) := by decide +kernel
theorem d_So_init_26 : decode b_So_init 26 = .ok (.aload_n 0, 1) := by decide +kernel
theorem d_So_init_27 : decode b_So_init 27 = .ok (.iconst 1, 1) := by decide +kernel
theorem d_So_init_28 : decode b_So_init 28 = .ok (.putfield 20, 3) := by decide +kernel
theorem d_So_init_31 : decode b_So_init 31 = .ok (.aload_n 0, 1) := by decide +kernel
theorem d_So_init_32 : decode b_So_init 32 = .ok (.iconst 1, 1) := by decide +kernel
theorem d_So_init_33 : decode b_So_init 33 = .ok (.putfield 24, 3) := by decide +kernel
theorem d_So_init_36 : decode b_So_init 36 = .ok (.aload_n 0, 1) := by decide +kernel
theorem d_So_init_37 : decode b_So_init 37 = .ok (.iconst 2, 1) := by decide +kernel
theorem d_So_init_38 : decode b_So_init 38 = .ok (.putfield 27, 3) := by decide +kernel
theorem d_So_init_41 : decode b_So_init 41 = .ok (.aload_n 0, 1) := by decide +kernel
theorem d_So_init_42 : decode b_So_init 42 = .ok (.iconst 1, 1) := by decide +kernel
theorem d_So_init_43 : decode b_So_init 43 = .ok (.putfield 30, 3) := by decide +kernel
theorem d_So_init_46 : decode b_So_init 46 = .ok (.aload_n 0, 1) := by decide +kernel
theorem d_So_init_47 : decode b_So_init 47 = .ok (.iconst 0, 1) := by decide +kernel
theorem d_So_init_48 : decode b_So_init 48 = .ok (.putfield 33, 3) := by decide +kernel
theorem d_So_init_51 : decode b_So_init 51 = .ok (.return_, 1) := by decide +kernel
