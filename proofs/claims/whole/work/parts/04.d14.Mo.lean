theorem d_Mo_only_0 : decode b_Mo_only 0 = .ok (.iconst (-1), 1) := by decide +kernel
theorem d_Mo_only_1 : decode b_Mo_only 1 = .ok (.istore_n 2, 1) := by decide +kernel
theorem d_Mo_only_2 : decode b_Mo_only 2 = .ok (.iconst 0, 1) := by decide +kernel
theorem d_Mo_only_3 : decode b_Mo_only 3 = .ok (.istore_n 3, 1) := by decide +kernel
theorem d_Mo_only_4 : decode b_Mo_only 4 = .ok (.iload_n 3, 1) := by decide +kernel
theorem d_Mo_only_5 : decode b_Mo_only 5 = .ok (.aload_n 0, 1) := by decide +kernel
theorem d_Mo_only_6 : decode b_Mo_only 6 = .ok (.getfield 63, 3) := by decide +kernel
theorem d_Mo_only_9 : decode b_Mo_only 9 = .ok (.if_icmp .ge 48, 3) := by decide +kernel
theorem d_Mo_only_12 : decode b_Mo_only 12 = .ok (.iload_n 1, 1) := by decide +kernel
theorem d_Mo_only_13 : decode b_Mo_only 13 = .ok (.iload_n 3, 1) := by decide +kernel
theorem d_Mo_only_14 : decode b_Mo_only 14 = .ok (.if_icmp .ne 7, 3) := by decide +kernel
theorem d_Mo_only_17 : decode b_Mo_only 17 = .ok (.iconst 0, 1) := by decide +kernel
theorem d_Mo_only_18 : decode b_Mo_only 18 = .ok (.goto 9, 3) := by decide +kernel
theorem d_Mo_only_21 : decode b_Mo_only 21 = .ok (.aload_n 0, 1) := by decide +kernel
theorem d_Mo_only_22 : decode b_Mo_only 22 = .ok (.iload_n 1, 1) := by decide +kernel
theorem d_Mo_only_23 : decode b_Mo_only 23 = .ok (.iload_n 3, 1) := by decide +kernel
theorem d_Mo_only_24 : decode b_Mo_only 24 = .ok (.invokevirtual 91, 3) := by decide +kernel
theorem d_Mo_only_27 : decode b_Mo_only 27 = .ok (.istore 4, 2) := by decide +kernel
theorem d_Mo_only_29 : decode b_Mo_only 29 = .ok (.iload 4, 2) := by decide +kernel
theorem d_Mo_only_31 : decode b_Mo_only 31 = .ok (.ifCond .ne 6, 3) := by decide +kernel
theorem d_Mo_only_34 : decode b_Mo_only 34 = .ok (.goto 17, 3) := by decide +kernel
theorem d_Mo_only_37 : decode b_Mo_only 37 = .ok (.iload 4, 2) := by decide +kernel
theorem d_Mo_only_39 : decode b_Mo_only 39 = .ok (.iconst 1, 1) := by decide +kernel
theorem d_Mo_only_40 : decode b_Mo_only 40 = .ok (.if_icmp .gt 7, 3) := by decide +kernel
theorem d_Mo_only_43 : decode b_Mo_only 43 = .ok (.iload_n 2, 1) := by decide +kernel
theorem d_Mo_only_44 : decode b_Mo_only 44 = .ok (.ifCond .lt 5, 3) := by decide +kernel
theorem d_Mo_only_47 : decode b_Mo_only 47 = .ok (.iconst (-1), 1) := by decide +kernel
theorem d_Mo_only_48 : decode b_Mo_only 48 = .ok (.ireturn, 1) := by decide +kernel
theorem d_Mo_only_49 : decode b_Mo_only 49 = .ok (.iload_n 3, 1) := by decide +kernel
theorem d_Mo_only_50 : decode b_Mo_only 50 = .ok (.istore_n 2, 1) := by decide +kernel
theorem d_Mo_only_51 : decode b_Mo_only 51 = .ok (.iinc 3 1, 3) := by decide +kernel
theorem d_Mo_only_54 : decode b_Mo_only 54 = .ok (.goto (-50), 3) := by decide +kernel
theorem d_Mo_only_57 : decode b_Mo_only 57 = .ok (.iload_n 2, 1) := by decide +kernel
theorem d_Mo_only_58 : decode b_Mo_only 58 = .ok (.ireturn, 1) := by decide +kernel
theorem d_Mo_hole_0 : decode b_Mo_hole 0 = .ok (.iconst 0, 1) := by decide +kernel
theorem d_Mo_hole_1 : decode b_Mo_hole 1 = .ok (.istore_n 2, 1) := by decide +kernel
theorem d_Mo_hole_2 : decode b_Mo_hole 2 = .ok (.iload_n 1, 1) := by decide +kernel
theorem d_Mo_hole_3 : decode b_Mo_hole 3 = .ok (.istore_n 3, 1) := by decide +kernel
theorem d_Mo_hole_4 : decode b_Mo_hole 4 = .ok (.iload_n 2, 1) := by decide +kernel
theorem d_Mo_hole_5 : decode b_Mo_hole 5 = .ok (.bipush 17, 2) := by decide +kernel
theorem d_Mo_hole_7 : decode b_Mo_hole 7 = .ok (.if_icmp .ge 96, 3) := by decide +kernel
theorem d_Mo_hole_10 : decode b_Mo_hole 10 = .ok (.aload_n 0, 1) := by decide +kernel
theorem d_Mo_hole_11 : decode b_Mo_hole 11 = .ok (.iload_n 3, 1) := by decide +kernel
theorem d_Mo_hole_12 : decode b_Mo_hole 12 = .ok (.invokevirtual 95, 3) := by decide +kernel
theorem d_Mo_hole_15 : decode b_Mo_hole 15 = .ok (.istore 4, 2) := by decide +kernel
theorem d_Mo_hole_17 : decode b_Mo_hole 17 = .ok (.iload 4, 2) := by decide +kernel
theorem d_Mo_hole_19 : decode b_Mo_hole 19 = .ok (.ifCond .ge 5, 3) := by decide +kernel
theorem d_Mo_hole_22 : decode b_Mo_hole 22 = .ok (.iconst 0, 1) := by decide +kernel
theorem d_Mo_hole_23 : decode b_Mo_hole 23 = .ok (.ireturn, 1) := by decide +kernel
theorem d_Mo_hole_24 : decode b_Mo_hole 24 = .ok (.iconst 0, 1) := by decide +kernel
theorem d_Mo_hole_25 : decode b_Mo_hole 25 = .ok (.istore 5, 2) := by decide +kernel
theorem d_Mo_hole_27 : decode b_Mo_hole 27 = .ok (.iload 5, 2) := by decide +kernel
theorem d_Mo_hole_29 : decode b_Mo_hole 29 = .ok (.iload_n 2, 1) := by decide +kernel
theorem d_Mo_hole_30 : decode b_Mo_hole 30 = .ok (.if_icmp .ge 22, 3) := by decide +kernel
theorem d_Mo_hole_33 : decode b_Mo_hole 33 = .ok (.aload_n 0, 1) := by decide +kernel
theorem d_Mo_hole_34 : decode b_Mo_hole 34 = .ok (.getfield 41, 3) := by decide +kernel
theorem d_Mo_hole_37 : decode b_Mo_hole 37 = .ok (.iload 5, 2) := by decide +kernel
theorem d_Mo_hole_39 : decode b_Mo_hole 39 = .ok (.iaload, 1) := by decide +kernel
theorem d_Mo_hole_40 : decode b_Mo_hole 40 = .ok (.iload_n 3, 1) := by decide +kernel
theorem d_Mo_hole_41 : decode b_Mo_hole 41 = .ok (.if_icmp .ne 5, 3) := by decide +kernel
theorem d_Mo_hole_44 : decode b_Mo_hole 44 = .ok (.iconst 0, 1) := by decide +kernel
theorem d_Mo_hole_45 : decode b_Mo_hole 45 = .ok (.ireturn, 1) := by decide +kernel
theorem d_Mo_hole_46 : decode b_Mo_hole 46 = .ok (.iinc 5 1, 3) := by decide +kernel
theorem d_Mo_hole_49 : decode b_Mo_hole 49 = .ok (.goto (-22), 3) := by decide +kernel
theorem d_Mo_hole_52 : decode b_Mo_hole 52 = .ok (.aload_n 0, 1) := by decide +kernel
theorem d_Mo_hole_53 : decode b_Mo_hole 53 = .ok (.getfield 41, 3) := by decide +kernel
theorem d_Mo_hole_56 : decode b_Mo_hole 56 = .ok (.iload_n 2, 1) := by decide +kernel
theorem d_Mo_hole_57 : decode b_Mo_hole 57 = .ok (.iload_n 3, 1) := by decide +kernel
theorem d_Mo_hole_58 : decode b_Mo_hole 58 = .ok (.iastore, 1) := by decide +kernel
theorem d_Mo_hole_59 : decode b_Mo_hole 59 = .ok (.iinc 2 1, 3) := by decide +kernel
theorem d_Mo_hole_62 : decode b_Mo_hole 62 = .ok (.iload 4, 2) := by decide +kernel
theorem d_Mo_hole_64 : decode b_Mo_hole 64 = .ok (.istore_n 3, 1) := by decide +kernel
theorem d_Mo_hole_65 : decode b_Mo_hole 65 = .ok (.iload_n 3, 1) := by decide +kernel
theorem d_Mo_hole_66 : decode b_Mo_hole 66 = .ok (.iload_n 1, 1) := by decide +kernel
theorem d_Mo_hole_67 : decode b_Mo_hole 67 = .ok (.if_icmp .ne 33, 3) := by decide +kernel
theorem d_Mo_hole_70 : decode b_Mo_hole 70 = .ok (.iload_n 2, 1) := by decide +kernel
theorem d_Mo_hole_71 : decode b_Mo_hole 71 = .ok (.iconst 3, 1) := by decide +kernel
theorem d_Mo_hole_72 : decode b_Mo_hole 72 = .ok (.if_icmp .lt 26, 3) := by decide +kernel
theorem d_Mo_hole_75 : decode b_Mo_hole 75 = .ok (.iload_n 2, 1) := by decide +kernel
theorem d_Mo_hole_76 : decode b_Mo_hole 76 = .ok (.bipush 16, 2) := by decide +kernel
theorem d_Mo_hole_78 : decode b_Mo_hole 78 = .ok (.if_icmp .gt 20, 3) := by decide +kernel
theorem d_Mo_hole_81 : decode b_Mo_hole 81 = .ok (.aload_n 0, 1) := by decide +kernel
theorem d_Mo_hole_82 : decode b_Mo_hole 82 = .ok (.getfield 70, 3) := by decide +kernel
theorem d_Mo_hole_85 : decode b_Mo_hole 85 = .ok (.iload_n 2, 1) := by decide +kernel
theorem d_Mo_hole_86 : decode b_Mo_hole 86 = .ok (.iadd, 1) := by decide +kernel
theorem d_Mo_hole_87 : decode b_Mo_hole 87 = .ok (.iconst 2, 1) := by decide +kernel
theorem d_Mo_hole_88 : decode b_Mo_hole 88 = .ok (.isub, 1) := by decide +kernel
theorem d_Mo_hole_89 : decode b_Mo_hole 89 = .ok (.bipush 120, 2) := by decide +kernel
theorem d_Mo_hole_91 : decode b_Mo_hole 91 = .ok (.if_icmp .gt 7, 3) := by decide +kernel
theorem d_Mo_hole_94 : decode b_Mo_hole 94 = .ok (.iload_n 2, 1) := by decide +kernel
theorem d_Mo_hole_95 : decode b_Mo_hole 95 = .ok (.goto 4, 3) := by decide +kernel
theorem d_Mo_hole_98 : decode b_Mo_hole 98 = .ok (.iconst 0, 1) := by decide +kernel
theorem d_Mo_hole_99 : decode b_Mo_hole 99 = .ok (.ireturn, 1) := by decide +kernel
theorem d_Mo_hole_100 : decode b_Mo_hole 100 = .ok (.goto (-96), 3) := by decide +kernel
theorem d_Mo_hole_103 : decode b_Mo_hole 103 = .ok (.iconst 0, 1) := by decide +kernel
theorem d_Mo_hole_104 : decode b_Mo_hole 104 = .ok (.ireturn, 1) := by decide +kernel
theorem d_Mo_mend_0 : decode b_Mo_mend 0 = .ok (.aload_n 0, 1) := by decide +kernel
theorem d_Mo_mend_1 : decode b_Mo_mend 1 = .ok (.iconst 0, 1) := by decide +kernel
theorem d_Mo_mend_2 : decode b_Mo_mend 2 = .ok (.putfield 60, 3) := by decide +kernel
theorem d_Mo_mend_5 : decode b_Mo_mend 5 = .ok (.aload_n 0, 1) := by decide +kernel
theorem d_Mo_mend_6 : decode b_Mo_mend 6 = .ok (.invokevirtual 98, 3) := by decide +kernel
theorem d_Mo_mend_9 : decode b_Mo_mend 9 = .ok (.aload_n 0, 1) := by decide +kernel
theorem d_Mo_mend_10 : decode b_Mo_mend 10 = .ok (.invokevirtual 101, 3) := by decide +kernel
theorem d_Mo_mend_13 : decode b_Mo_mend 13 = .ok (.iconst 0, 1) := by decide +kernel
theorem d_Mo_mend_14 : decode b_Mo_mend 14 = .ok (.istore_n 1, 1) := by decide +kernel
theorem d_Mo_mend_15 : decode b_Mo_mend 15 = .ok (.iload_n 1, 1) := by decide +kernel
theorem d_Mo_mend_16 : decode b_Mo_mend 16 = .ok (.aload_n 0, 1) := by decide +kernel
theorem d_Mo_mend_17 : decode b_Mo_mend 17 = .ok (.getfield 63, 3) := by decide +kernel
theorem d_Mo_mend_20 : decode b_Mo_mend 20 = .ok (.if_icmp .ge 74, 3) := by decide +kernel
theorem d_Mo_mend_23 : decode b_Mo_mend 23 = .ok (.aload_n 0, 1) := by decide +kernel
theorem d_Mo_mend_24 : decode b_Mo_mend 24 = .ok (.iload_n 1, 1) := by decide +kernel
theorem d_Mo_mend_25 : decode b_Mo_mend 25 = .ok (.invokevirtual 104, 3) := by decide +kernel
theorem d_Mo_mend_28 : decode b_Mo_mend 28 = .ok (.istore_n 2, 1) := by decide +kernel
theorem d_Mo_mend_29 : decode b_Mo_mend 29 = .ok (.iload_n 2, 1) := by decide +kernel
theorem d_Mo_mend_30 : decode b_Mo_mend 30 = .ok (.ifCond .ne 9, 3) := by decide +kernel
theorem d_Mo_mend_33 : decode b_Mo_mend 33 = .ok (.iinc 1 1, 3) := by decide +kernel
theorem d_Mo_mend_36 : decode b_Mo_mend 36 = .ok (.goto (-21), 3) := by decide +kernel
theorem d_Mo_mend_39 : decode b_Mo_mend 39 = .ok (.iconst 1, 1) := by decide +kernel
theorem d_Mo_mend_40 : decode b_Mo_mend 40 = .ok (.istore_n 3, 1) := by decide +kernel
theorem d_Mo_mend_41 : decode b_Mo_mend 41 = .ok (.iload_n 3, 1) := by decide +kernel
theorem d_Mo_mend_42 : decode b_Mo_mend 42 = .ok (.iload_n 2, 1) := by decide +kernel
theorem d_Mo_mend_43 : decode b_Mo_mend 43 = .ok (.iconst 2, 1) := by decide +kernel
theorem d_Mo_mend_44 : decode b_Mo_mend 44 = .ok (.isub, 1) := by decide +kernel
theorem d_Mo_mend_45 : decode b_Mo_mend 45 = .ok (.if_icmp .gt 34, 3) := by decide +kernel
theorem d_Mo_mend_48 : decode b_Mo_mend 48 = .ok (.aload_n 0, 1) := by decide +kernel
theorem d_Mo_mend_49 : decode b_Mo_mend 49 = .ok (.aload_n 0, 1) := by decide +kernel
theorem d_Mo_mend_50 : decode b_Mo_mend 50 = .ok (.getfield 41, 3) := by decide +kernel
theorem d_Mo_mend_53 : decode b_Mo_mend 53 = .ok (.iconst 0, 1) := by decide +kernel
theorem d_Mo_mend_54 : decode b_Mo_mend 54 = .ok (.iaload, 1) := by decide +kernel
theorem d_Mo_mend_55 : decode b_Mo_mend 55 = .ok (.aload_n 0, 1) := by decide +kernel
theorem d_Mo_mend_56 : decode b_Mo_mend 56 = .ok (.getfield 41, 3) := by decide +kernel
theorem d_Mo_mend_59 : decode b_Mo_mend 59 = .ok (.iload_n 3, 1) := by decide +kernel
theorem d_Mo_mend_60 : decode b_Mo_mend 60 = .ok (.iconst 1, 1) := by decide +kernel
theorem d_Mo_mend_61 : decode b_Mo_mend 61 = .ok (.iadd, 1) := by decide +kernel
theorem d_Mo_mend_62 : decode b_Mo_mend 62 = .ok (.iaload, 1) := by decide +kernel
theorem d_Mo_mend_63 : decode b_Mo_mend 63 = .ok (.aload_n 0, 1) := by decide +kernel
theorem d_Mo_mend_64 : decode b_Mo_mend 64 = .ok (.getfield 41, 3) := by decide +kernel
theorem d_Mo_mend_67 : decode b_Mo_mend 67 = .ok (.iload_n 3, 1) := by decide +kernel
theorem d_Mo_mend_68 : decode b_Mo_mend 68 = .ok (.iaload, 1) := by decide +kernel
theorem d_Mo_mend_69 : decode b_Mo_mend 69 = .ok (.invokevirtual 73, 3) := by decide +kernel
theorem d_Mo_mend_72 : decode b_Mo_mend 72 = .ok (.pop, 1) := by decide +kernel
theorem d_Mo_mend_73 : decode b_Mo_mend 73 = .ok (.iinc 3 1, 3) := by decide +kernel
theorem d_Mo_mend_76 : decode b_Mo_mend 76 = .ok (.goto (-35), 3) := by decide +kernel
theorem d_Mo_mend_79 : decode b_Mo_mend 79 = .ok (.aload_n 0, 1) := by decide +kernel
theorem d_Mo_mend_80 : decode b_Mo_mend 80 = .ok (.dup, 1) := by decide +kernel
theorem d_Mo_mend_81 : decode b_Mo_mend 81 = .ok (.getfield 107, 3) := by decide +kernel
theorem d_Mo_mend_84 : decode b_Mo_mend 84 = .ok (.iconst 1, 1) := by decide +kernel
theorem d_Mo_mend_85 : decode b_Mo_mend 85 = .ok (.iadd, 1) := by decide +kernel
theorem d_Mo_mend_86 : decode b_Mo_mend 86 = .ok (.putfield 107, 3) := by decide +kernel
theorem d_Mo_mend_89 : decode b_Mo_mend 89 = .ok (.iconst 0, 1) := by decide +kernel
theorem d_Mo_mend_90 : decode b_Mo_mend 90 = .ok (.istore_n 1, 1) := by decide +kernel
theorem d_Mo_mend_91 : decode b_Mo_mend 91 = .ok (.goto (-76), 3) := by decide +kernel
theorem d_Mo_mend_94 : decode b_Mo_mend 94 = .ok (.iconst 0, 1) := by decide +kernel
theorem d_Mo_mend_95 : decode b_Mo_mend 95 = .ok (.istore_n 2, 1) := by decide +kernel
theorem d_Mo_mend_96 : decode b_Mo_mend 96 = .ok (.iconst 0, 1) := by decide +kernel
theorem d_Mo_mend_97 : decode b_Mo_mend 97 = .ok (.istore_n 3, 1) := by decide +kernel
theorem d_Mo_mend_98 : decode b_Mo_mend 98 = .ok (.iload_n 3, 1) := by decide +kernel
theorem d_Mo_mend_99 : decode b_Mo_mend 99 = .ok (.aload_n 0, 1) := by decide +kernel
theorem d_Mo_mend_100 : decode b_Mo_mend 100 = .ok (.getfield 63, 3) := by decide +kernel
theorem d_Mo_mend_103 : decode b_Mo_mend 103 = .ok (.if_icmp .ge 43, 3) := by decide +kernel
theorem d_Mo_mend_106 : decode b_Mo_mend 106 = .ok (.iconst 0, 1) := by decide +kernel
theorem d_Mo_mend_107 : decode b_Mo_mend 107 = .ok (.istore 4, 2) := by decide +kernel
theorem d_Mo_mend_109 : decode b_Mo_mend 109 = .ok (.iload 4, 2) := by decide +kernel
theorem d_Mo_mend_111 : decode b_Mo_mend 111 = .ok (.aload_n 0, 1) := by decide +kernel
theorem d_Mo_mend_112 : decode b_Mo_mend 112 = .ok (.getfield 63, 3) := by decide +kernel
theorem d_Mo_mend_115 : decode b_Mo_mend 115 = .ok (.if_icmp .ge 25, 3) := by decide +kernel
theorem d_Mo_mend_118 : decode b_Mo_mend 118 = .ok (.iload_n 3, 1) := by decide +kernel
theorem d_Mo_mend_119 : decode b_Mo_mend 119 = .ok (.iload 4, 2) := by decide +kernel
theorem d_Mo_mend_121 : decode b_Mo_mend 121 = .ok (.if_icmp .eq 13, 3) := by decide +kernel
theorem d_Mo_mend_124 : decode b_Mo_mend 124 = .ok (.iload_n 2, 1) := by decide +kernel
theorem d_Mo_mend_125 : decode b_Mo_mend 125 = .ok (.aload_n 0, 1) := by decide +kernel
theorem d_Mo_mend_126 : decode b_Mo_mend 126 = .ok (.iload_n 3, 1) := by decide +kernel
theorem d_Mo_mend_127 : decode b_Mo_mend 127 = .ok (.iload 4, 2) := by decide +kernel
theorem d_Mo_mend_129 : decode b_Mo_mend 129 = .ok (.invokevirtual 91, 3) := by decide +kernel
theorem d_Mo_mend_132 : decode b_Mo_mend 132 = .ok (.iadd, 1) := by decide +kernel
theorem d_Mo_mend_133 : decode b_Mo_mend 133 = .ok (.istore_n 2, 1) := by decide +kernel
theorem d_Mo_mend_134 : decode b_Mo_mend 134 = .ok (.iinc 4 1, 3) := by decide +kernel
theorem d_Mo_mend_137 : decode b_Mo_mend 137 = .ok (.goto (-28), 3) := by decide +kernel
theorem d_Mo_mend_140 : decode b_Mo_mend 140 = .ok (.iinc 3 1, 3) := by decide +kernel
theorem d_Mo_mend_143 : decode b_Mo_mend 143 = .ok (.goto (-45), 3) := by decide +kernel
theorem d_Mo_mend_146 : decode b_Mo_mend 146 = .ok (.iload_n 2, 1) := by decide +kernel
theorem d_Mo_mend_147 : decode b_Mo_mend 147 = .ok (.ireturn, 1) := by decide +kernel
theorem d_Mo_mended_0 : decode b_Mo_mended 0 = .ok (.aload_n 0, 1) := by decide +kernel
theorem d_Mo_mended_1 : decode b_Mo_mended 1 = .ok (.iconst 0, 1) := by decide +kernel
theorem d_Mo_mended_2 : decode b_Mo_mended 2 = .ok (.putfield 60, 3) := by decide +kernel
theorem d_Mo_mended_5 : decode b_Mo_mended 5 = .ok (.iload_n 1, 1) := by decide +kernel
theorem d_Mo_mended_6 : decode b_Mo_mended 6 = .ok (.ifCond .ne 10, 3) := by decide +kernel
theorem d_Mo_mended_9 : decode b_Mo_mended 9 = .ok (.aload_n 0, 1) := by decide +kernel
theorem d_Mo_mended_10 : decode b_Mo_mended 10 = .ok (.getfield 81, 3) := by decide +kernel
theorem d_Mo_mended_13 : decode b_Mo_mended 13 = .ok (.goto 40, 3) := by decide +kernel
theorem d_Mo_mended_16 : decode b_Mo_mended 16 = .ok (.iload_n 1, 1) := by decide +kernel
theorem d_Mo_mended_17 : decode b_Mo_mended 17 = .ok (.iconst 1, 1) := by decide +kernel
theorem d_Mo_mended_18 : decode b_Mo_mended 18 = .ok (.if_icmp .ne 10, 3) := by decide +kernel
theorem d_Mo_mended_21 : decode b_Mo_mended 21 = .ok (.aload_n 0, 1) := by decide +kernel
theorem d_Mo_mended_22 : decode b_Mo_mended 22 = .ok (.getfield 88, 3) := by decide +kernel
theorem d_Mo_mended_25 : decode b_Mo_mended 25 = .ok (.goto 28, 3) := by decide +kernel
theorem d_Mo_mended_28 : decode b_Mo_mended 28 = .ok (.iload_n 1, 1) := by decide +kernel
theorem d_Mo_mended_29 : decode b_Mo_mended 29 = .ok (.iconst 2, 1) := by decide +kernel
theorem d_Mo_mended_30 : decode b_Mo_mended 30 = .ok (.if_icmp .ne 10, 3) := by decide +kernel
theorem d_Mo_mended_33 : decode b_Mo_mended 33 = .ok (.aload_n 0, 1) := by decide +kernel
theorem d_Mo_mended_34 : decode b_Mo_mended 34 = .ok (.getfield 107, 3) := by decide +kernel
theorem d_Mo_mended_37 : decode b_Mo_mended 37 = .ok (.goto 16, 3) := by decide +kernel
theorem d_Mo_mended_40 : decode b_Mo_mended 40 = .ok (.iload_n 1, 1) := by decide +kernel
theorem d_Mo_mended_41 : decode b_Mo_mended 41 = .ok (.iconst 3, 1) := by decide +kernel
theorem d_Mo_mended_42 : decode b_Mo_mended 42 = .ok (.if_icmp .ne 10, 3) := by decide +kernel
theorem d_Mo_mended_45 : decode b_Mo_mended 45 = .ok (.aload_n 0, 1) := by decide +kernel
theorem d_Mo_mended_46 : decode b_Mo_mended 46 = .ok (.getfield 70, 3) := by decide +kernel
theorem d_Mo_mended_49 : decode b_Mo_mended 49 = .ok (.goto 4, 3) := by decide +kernel
theorem d_Mo_mended_52 : decode b_Mo_mended 52 = .ok (.iconst (-1), 1) := by decide +kernel
theorem d_Mo_mended_53 : decode b_Mo_mended 53 = .ok (.ireturn, 1) := by decide +kernel
theorem d_Mo_triangle_0 : decode b_Mo_triangle 0 = .ok (.aload_n 0, 1) := by decide +kernel
theorem d_Mo_triangle_1 : decode b_Mo_triangle 1 = .ok (.iconst 0, 1) := by decide +kernel
theorem d_Mo_triangle_2 : decode b_Mo_triangle 2 = .ok (.putfield 60, 3) := by decide +kernel
theorem d_Mo_triangle_5 : decode b_Mo_triangle 5 = .ok (.iload_n 1, 1) := by decide +kernel
theorem d_Mo_triangle_6 : decode b_Mo_triangle 6 = .ok (.iconst 0, 1) := by decide +kernel
theorem d_Mo_triangle_7 : decode b_Mo_triangle 7 = .ok (.aload_n 0, 1) := by decide +kernel
theorem d_Mo_triangle_8 : decode b_Mo_triangle 8 = .ok (.getfield 70, 3) := by decide +kernel
theorem d_Mo_triangle_11 : decode b_Mo_triangle 11 = .ok (.iconst 1, 1) := by decide +kernel
theorem d_Mo_triangle_12 : decode b_Mo_triangle 12 = .ok (.isub, 1) := by decide +kernel
theorem d_Mo_triangle_13 : decode b_Mo_triangle 13 = .ok (.invokestatic 66, 3) := by decide +kernel
theorem d_Mo_triangle_16 : decode b_Mo_triangle 16 = .ok (.ifCond .eq 25, 3) := by decide +kernel
theorem d_Mo_triangle_19 : decode b_Mo_triangle 19 = .ok (.iload_n 2, 1) := by decide +kernel
theorem d_Mo_triangle_20 : decode b_Mo_triangle 20 = .ok (.iconst 0, 1) := by decide +kernel
theorem d_Mo_triangle_21 : decode b_Mo_triangle 21 = .ok (.iconst 2, 1) := by decide +kernel
theorem d_Mo_triangle_22 : decode b_Mo_triangle 22 = .ok (.invokestatic 66, 3) := by decide +kernel
theorem d_Mo_triangle_25 : decode b_Mo_triangle 25 = .ok (.ifCond .eq 16, 3) := by decide +kernel
theorem d_Mo_triangle_28 : decode b_Mo_triangle 28 = .ok (.aload_n 0, 1) := by decide +kernel
theorem d_Mo_triangle_29 : decode b_Mo_triangle 29 = .ok (.getfield 19, 3) := by decide +kernel
theorem d_Mo_triangle_32 : decode b_Mo_triangle 32 = .ok (.iconst 3, 1) := by decide +kernel
theorem d_Mo_triangle_33 : decode b_Mo_triangle 33 = .ok (.iload_n 1, 1) := by decide +kernel
theorem d_Mo_triangle_34 : decode b_Mo_triangle 34 = .ok (.imul, 1) := by decide +kernel
theorem d_Mo_triangle_35 : decode b_Mo_triangle 35 = .ok (.iload_n 2, 1) := by decide +kernel
theorem d_Mo_triangle_36 : decode b_Mo_triangle 36 = .ok (.iadd, 1) := by decide +kernel
theorem d_Mo_triangle_37 : decode b_Mo_triangle 37 = .ok (.iaload, 1) := by decide +kernel
theorem d_Mo_triangle_38 : decode b_Mo_triangle 38 = .ok (.goto 4, 3) := by decide +kernel
theorem d_Mo_triangle_41 : decode b_Mo_triangle 41 = .ok (.iconst (-1), 1) := by decide +kernel
theorem d_Mo_triangle_42 : decode b_Mo_triangle 42 = .ok (.ireturn, 1) := by decide +kernel
theorem d_Mo_turn_0 : decode b_Mo_turn 0 = .ok (.aload_n 0, 1) := by decide +kernel
theorem d_Mo_turn_1 : decode b_Mo_turn 1 = .ok (.iconst 0, 1) := by decide +kernel
theorem d_Mo_turn_2 : decode b_Mo_turn 2 = .ok (.putfield 60, 3) := by decide +kernel
theorem d_Mo_turn_5 : decode b_Mo_turn 5 = .ok (.iload_n 1, 1) := by decide +kernel
theorem d_Mo_turn_6 : decode b_Mo_turn 6 = .ok (.iconst 0, 1) := by decide +kernel
theorem d_Mo_turn_7 : decode b_Mo_turn 7 = .ok (.iconst 2, 1) := by decide +kernel
theorem d_Mo_turn_8 : decode b_Mo_turn 8 = .ok (.invokestatic 66, 3) := by decide +kernel
theorem d_Mo_turn_11 : decode b_Mo_turn 11 = .ok (.ifCond .eq 12, 3) := by decide +kernel
theorem d_Mo_turn_14 : decode b_Mo_turn 14 = .ok (.iload_n 2, 1) := by decide +kernel
theorem d_Mo_turn_15 : decode b_Mo_turn 15 = .ok (.iconst 0, 1) := by decide +kernel
theorem d_Mo_turn_16 : decode b_Mo_turn 16 = .ok (.iconst 3, 1) := by decide +kernel
theorem d_Mo_turn_17 : decode b_Mo_turn 17 = .ok (.invokestatic 66, 3) := by decide +kernel
theorem d_Mo_turn_20 : decode b_Mo_turn 20 = .ok (.ifCond .ne 5, 3) := by decide +kernel
theorem d_Mo_turn_23 : decode b_Mo_turn 23 = .ok (.iconst 0, 1) := by decide +kernel
theorem d_Mo_turn_24 : decode b_Mo_turn 24 = .ok (.ireturn, 1) := by decide +kernel
theorem d_Mo_turn_25 : decode b_Mo_turn 25 = .ok (.iconst 0, 1) := by decide +kernel
theorem d_Mo_turn_26 : decode b_Mo_turn 26 = .ok (.istore_n 3, 1) := by decide +kernel
theorem d_Mo_turn_27 : decode b_Mo_turn 27 = .ok (.iload_n 3, 1) := by decide +kernel
theorem d_Mo_turn_28 : decode b_Mo_turn 28 = .ok (.iload_n 2, 1) := by decide +kernel
theorem d_Mo_turn_29 : decode b_Mo_turn 29 = .ok (.if_icmp .ge 147, 3) := by decide +kernel
theorem d_Mo_turn_32 : decode b_Mo_turn 32 = .ok (.iconst 0, 1) := by decide +kernel
theorem d_Mo_turn_33 : decode b_Mo_turn 33 = .ok (.istore 4, 2) := by decide +kernel
theorem d_Mo_turn_35 : decode b_Mo_turn 35 = .ok (.iload 4, 2) := by decide +kernel
theorem d_Mo_turn_37 : decode b_Mo_turn 37 = .ok (.aload_n 0, 1) := by decide +kernel
theorem d_Mo_turn_38 : decode b_Mo_turn 38 = .ok (.getfield 63, 3) := by decide +kernel
theorem d_Mo_turn_41 : decode b_Mo_turn 41 = .ok (.if_icmp .ge 129, 3) := by decide +kernel
theorem d_Mo_turn_44 : decode b_Mo_turn 44 = .ok (.aload_n 0, 1) := by decide +kernel
theorem d_Mo_turn_45 : decode b_Mo_turn 45 = .ok (.getfield 7, 3) := by decide +kernel
theorem d_Mo_turn_48 : decode b_Mo_turn 48 = .ok (.iload 4, 2) := by decide +kernel
theorem d_Mo_turn_50 : decode b_Mo_turn 50 = .ok (.iaload, 1) := by decide +kernel
theorem d_Mo_turn_51 : decode b_Mo_turn 51 = .ok (.istore 5, 2) := by decide +kernel
theorem d_Mo_turn_53 : decode b_Mo_turn 53 = .ok (.aload_n 0, 1) := by decide +kernel
theorem d_Mo_turn_54 : decode b_Mo_turn 54 = .ok (.getfield 13, 3) := by decide +kernel
theorem d_Mo_turn_57 : decode b_Mo_turn 57 = .ok (.iload 4, 2) := by decide +kernel
theorem d_Mo_turn_59 : decode b_Mo_turn 59 = .ok (.iaload, 1) := by decide +kernel
theorem d_Mo_turn_60 : decode b_Mo_turn 60 = .ok (.istore 6, 2) := by decide +kernel
theorem d_Mo_turn_62 : decode b_Mo_turn 62 = .ok (.aload_n 0, 1) := by decide +kernel
theorem d_Mo_turn_63 : decode b_Mo_turn 63 = .ok (.getfield 16, 3) := by decide +kernel
theorem d_Mo_turn_66 : decode b_Mo_turn 66 = .ok (.iload 4, 2) := by decide +kernel
theorem d_Mo_turn_68 : decode b_Mo_turn 68 = .ok (.iaload, 1) := by decide +kernel
theorem d_Mo_turn_69 : decode b_Mo_turn 69 = .ok (.istore 7, 2) := by decide +kernel
theorem d_Mo_turn_71 : decode b_Mo_turn 71 = .ok (.aload_n 0, 1) := by decide +kernel
theorem d_Mo_turn_72 : decode b_Mo_turn 72 = .ok (.getfield 7, 3) := by decide +kernel
theorem d_Mo_turn_75 : decode b_Mo_turn 75 = .ok (.iload 4, 2) := by decide +kernel
theorem d_Mo_turn_77 : decode b_Mo_turn 77 = .ok (.iload_n 1, 1) := by decide +kernel
theorem d_Mo_turn_78 : decode b_Mo_turn 78 = .ok (.ifCond .ne 8, 3) := by decide +kernel
theorem d_Mo_turn_81 : decode b_Mo_turn 81 = .ok (.iload 5, 2) := by decide +kernel
theorem d_Mo_turn_83 : decode b_Mo_turn 83 = .ok (.goto 18, 3) := by decide +kernel
theorem d_Mo_turn_86 : decode b_Mo_turn 86 = .ok (.iload_n 1, 1) := by decide +kernel
theorem d_Mo_turn_87 : decode b_Mo_turn 87 = .ok (.iconst 1, 1) := by decide +kernel
theorem d_Mo_turn_88 : decode b_Mo_turn 88 = .ok (.if_icmp .ne 8, 3) := by decide +kernel
theorem d_Mo_turn_91 : decode b_Mo_turn 91 = .ok (.iload 7, 2) := by decide +kernel
theorem d_Mo_turn_93 : decode b_Mo_turn 93 = .ok (.goto 8, 3) := by decide +kernel
theorem d_Mo_turn_96 : decode b_Mo_turn 96 = .ok (.bipush 120, 2) := by decide +kernel
theorem d_Mo_turn_98 : decode b_Mo_turn 98 = .ok (.iload 6, 2) := by decide +kernel
theorem d_Mo_turn_100 : decode b_Mo_turn 100 = .ok (.isub, 1) := by decide +kernel
theorem d_Mo_turn_101 : decode b_Mo_turn 101 = .ok (.iastore, 1) := by decide +kernel
theorem d_Mo_turn_102 : decode b_Mo_turn 102 = .ok (.aload_n 0, 1) := by decide +kernel
theorem d_Mo_turn_103 : decode b_Mo_turn 103 = .ok (.getfield 13, 3) := by decide +kernel
theorem d_Mo_turn_106 : decode b_Mo_turn 106 = .ok (.iload 4, 2) := by decide +kernel
theorem d_Mo_turn_108 : decode b_Mo_turn 108 = .ok (.iload_n 1, 1) := by decide +kernel
theorem d_Mo_turn_109 : decode b_Mo_turn 109 = .ok (.ifCond .ne 11, 3) := by decide +kernel
theorem d_Mo_turn_112 : decode b_Mo_turn 112 = .ok (.bipush 120, 2) := by decide +kernel
theorem d_Mo_turn_114 : decode b_Mo_turn 114 = .ok (.iload 7, 2) := by decide +kernel
theorem d_Mo_turn_116 : decode b_Mo_turn 116 = .ok (.isub, 1) := by decide +kernel
theorem d_Mo_turn_117 : decode b_Mo_turn 117 = .ok (.goto 15, 3) := by decide +kernel
theorem d_Mo_turn_120 : decode b_Mo_turn 120 = .ok (.iload_n 1, 1) := by decide +kernel
theorem d_Mo_turn_121 : decode b_Mo_turn 121 = .ok (.iconst 1, 1) := by decide +kernel
theorem d_Mo_turn_122 : decode b_Mo_turn 122 = .ok (.if_icmp .ne 8, 3) := by decide +kernel
theorem d_Mo_turn_125 : decode b_Mo_turn 125 = .ok (.iload 6, 2) := by decide +kernel
theorem d_Mo_turn_127 : decode b_Mo_turn 127 = .ok (.goto 5, 3) := by decide +kernel
theorem d_Mo_turn_130 : decode b_Mo_turn 130 = .ok (.iload 5, 2) := by decide +kernel
theorem d_Mo_turn_132 : decode b_Mo_turn 132 = .ok (.iastore, 1) := by decide +kernel
theorem d_Mo_turn_133 : decode b_Mo_turn 133 = .ok (.aload_n 0, 1) := by decide +kernel
theorem d_Mo_turn_134 : decode b_Mo_turn 134 = .ok (.getfield 16, 3) := by decide +kernel
theorem d_Mo_turn_137 : decode b_Mo_turn 137 = .ok (.iload 4, 2) := by decide +kernel
theorem d_Mo_turn_139 : decode b_Mo_turn 139 = .ok (.iload_n 1, 1) := by decide +kernel
theorem d_Mo_turn_140 : decode b_Mo_turn 140 = .ok (.ifCond .ne 8, 3) := by decide +kernel
theorem d_Mo_turn_143 : decode b_Mo_turn 143 = .ok (.iload 6, 2) := by decide +kernel
theorem d_Mo_turn_145 : decode b_Mo_turn 145 = .ok (.goto 18, 3) := by decide +kernel
theorem d_Mo_turn_148 : decode b_Mo_turn 148 = .ok (.iload_n 1, 1) := by decide +kernel
theorem d_Mo_turn_149 : decode b_Mo_turn 149 = .ok (.iconst 1, 1) := by decide +kernel
theorem d_Mo_turn_150 : decode b_Mo_turn 150 = .ok (.if_icmp .ne 11, 3) := by decide +kernel
theorem d_Mo_turn_153 : decode b_Mo_turn 153 = .ok (.bipush 120, 2) := by decide +kernel
theorem d_Mo_turn_155 : decode b_Mo_turn 155 = .ok (.iload 5, 2) := by decide +kernel
theorem d_Mo_turn_157 : decode b_Mo_turn 157 = .ok (.isub, 1) := by decide +kernel
theorem d_Mo_turn_158 : decode b_Mo_turn 158 = .ok (.goto 5, 3) := by decide +kernel
theorem d_Mo_turn_161 : decode b_Mo_turn 161 = .ok (.iload 7, 2) := by decide +kernel
theorem d_Mo_turn_163 : decode b_Mo_turn 163 = .ok (.iastore, 1) := by decide +kernel
theorem d_Mo_turn_164 : decode b_Mo_turn 164 = .ok (.iinc 4 1, 3) := by decide +kernel
theorem d_Mo_turn_167 : decode b_Mo_turn 167 = .ok (.goto (-132), 3) := by decide +kernel
theorem d_Mo_turn_170 : decode b_Mo_turn 170 = .ok (.iinc 3 1, 3) := by decide +kernel
theorem d_Mo_turn_173 : decode b_Mo_turn 173 = .ok (.goto (-146), 3) := by decide +kernel
theorem d_Mo_turn_176 : decode b_Mo_turn 176 = .ok (.iconst 1, 1) := by decide +kernel
theorem d_Mo_turn_177 : decode b_Mo_turn 177 = .ok (.ireturn, 1) := by decide +kernel
theorem d_Mo_high_0 : decode b_Mo_high 0 = .ok (.iconst 2, 1) := by decide +kernel
theorem d_Mo_high_1 : decode b_Mo_high 1 = .ok (.iload_n 1, 1) := by decide +kernel
theorem d_Mo_high_2 : decode b_Mo_high 2 = .ok (.imul, 1) := by decide +kernel
theorem d_Mo_high_3 : decode b_Mo_high 3 = .ok (.iconst 1, 1) := by decide +kernel
theorem d_Mo_high_4 : decode b_Mo_high 4 = .ok (.iadd, 1) := by decide +kernel
theorem d_Mo_high_5 : decode b_Mo_high 5 = .ok (.aload_n 0, 1) := by decide +kernel
theorem d_Mo_high_6 : decode b_Mo_high 6 = .ok (.getfield 110, 3) := by decide +kernel
theorem d_Mo_high_9 : decode b_Mo_high 9 = .ok (.imul, 1) := by decide +kernel
theorem d_Mo_high_10 : decode b_Mo_high 10 = .ok (.ireturn, 1) := by decide +kernel
theorem d_Mo_isAbove_0 : decode b_Mo_isAbove 0 = .ok (.iconst 2, 1) := by decide +kernel
theorem d_Mo_isAbove_1 : decode b_Mo_isAbove 1 = .ok (.aload_n 0, 1) := by decide +kernel
theorem d_Mo_isAbove_2 : decode b_Mo_isAbove 2 = .ok (.getfield 28, 3) := by decide +kernel
theorem d_Mo_isAbove_5 : decode b_Mo_isAbove 5 = .ok (.iload_n 1, 1) := by decide +kernel
theorem d_Mo_isAbove_6 : decode b_Mo_isAbove 6 = .ok (.iaload, 1) := by decide +kernel
theorem d_Mo_isAbove_7 : decode b_Mo_isAbove 7 = .ok (.imul, 1) := by decide +kernel
theorem d_Mo_isAbove_8 : decode b_Mo_isAbove 8 = .ok (.aload_n 0, 1) := by decide +kernel
theorem d_Mo_isAbove_9 : decode b_Mo_isAbove 9 = .ok (.iload_n 2, 1) := by decide +kernel
theorem d_Mo_isAbove_10 : decode b_Mo_isAbove 10 = .ok (.invokevirtual 119, 3) := by decide +kernel
theorem d_Mo_isAbove_13 : decode b_Mo_isAbove 13 = .ok (.if_icmp .le 7, 3) := by decide +kernel
theorem d_Mo_isAbove_16 : decode b_Mo_isAbove 16 = .ok (.iconst 1, 1) := by decide +kernel
theorem d_Mo_isAbove_17 : decode b_Mo_isAbove 17 = .ok (.goto 4, 3) := by decide +kernel
theorem d_Mo_isAbove_20 : decode b_Mo_isAbove 20 = .ok (.iconst 0, 1) := by decide +kernel
theorem d_Mo_isAbove_21 : decode b_Mo_isAbove 21 = .ok (.ireturn, 1) := by decide +kernel
theorem d_Mo_isCut_0 : decode b_Mo_isCut 0 = .ok (.aload_n 0, 1) := by decide +kernel
theorem d_Mo_isCut_1 : decode b_Mo_isCut 1 = .ok (.iconst 3, 1) := by decide +kernel
theorem d_Mo_isCut_2 : decode b_Mo_isCut 2 = .ok (.iload_n 2, 1) := by decide +kernel
theorem d_Mo_isCut_3 : decode b_Mo_isCut 3 = .ok (.imul, 1) := by decide +kernel
theorem d_Mo_isCut_4 : decode b_Mo_isCut 4 = .ok (.iload_n 1, 1) := by decide +kernel
theorem d_Mo_isCut_5 : decode b_Mo_isCut 5 = .ok (.invokevirtual 131, 3) := by decide +kernel
theorem d_Mo_isCut_8 : decode b_Mo_isCut 8 = .ok (.istore_n 3, 1) := by decide +kernel
theorem d_Mo_isCut_9 : decode b_Mo_isCut 9 = .ok (.aload_n 0, 1) := by decide +kernel
theorem d_Mo_isCut_10 : decode b_Mo_isCut 10 = .ok (.iconst 3, 1) := by decide +kernel
theorem d_Mo_isCut_11 : decode b_Mo_isCut 11 = .ok (.iload_n 2, 1) := by decide +kernel
theorem d_Mo_isCut_12 : decode b_Mo_isCut 12 = .ok (.imul, 1) := by decide +kernel
theorem d_Mo_isCut_13 : decode b_Mo_isCut 13 = .ok (.iconst 1, 1) := by decide +kernel
theorem d_Mo_isCut_14 : decode b_Mo_isCut 14 = .ok (.iadd, 1) := by decide +kernel
theorem d_Mo_isCut_15 : decode b_Mo_isCut 15 = .ok (.iload_n 1, 1) := by decide +kernel
theorem d_Mo_isCut_16 : decode b_Mo_isCut 16 = .ok (.invokevirtual 131, 3) := by decide +kernel
theorem d_Mo_isCut_19 : decode b_Mo_isCut 19 = .ok (.iload_n 3, 1) := by decide +kernel
theorem d_Mo_isCut_20 : decode b_Mo_isCut 20 = .ok (.if_icmp .ne 17, 3) := by decide +kernel
theorem d_Mo_isCut_23 : decode b_Mo_isCut 23 = .ok (.aload_n 0, 1) := by decide +kernel
theorem d_Mo_isCut_24 : decode b_Mo_isCut 24 = .ok (.iconst 3, 1) := by decide +kernel
theorem d_Mo_isCut_25 : decode b_Mo_isCut 25 = .ok (.iload_n 2, 1) := by decide +kernel
theorem d_Mo_isCut_26 : decode b_Mo_isCut 26 = .ok (.imul, 1) := by decide +kernel
theorem d_Mo_isCut_27 : decode b_Mo_isCut 27 = .ok (.iconst 2, 1) := by decide +kernel
theorem d_Mo_isCut_28 : decode b_Mo_isCut 28 = .ok (.iadd, 1) := by decide +kernel
theorem d_Mo_isCut_29 : decode b_Mo_isCut 29 = .ok (.iload_n 1, 1) := by decide +kernel
theorem d_Mo_isCut_30 : decode b_Mo_isCut 30 = .ok (.invokevirtual 131, 3) := by decide +kernel
theorem d_Mo_isCut_33 : decode b_Mo_isCut 33 = .ok (.iload_n 3, 1) := by decide +kernel
theorem d_Mo_isCut_34 : decode b_Mo_isCut 34 = .ok (.if_icmp .eq 7, 3) := by decide +kernel
theorem d_Mo_isCut_37 : decode b_Mo_isCut 37 = .ok (.iconst 1, 1) := by decide +kernel
theorem d_Mo_isCut_38 : decode b_Mo_isCut 38 = .ok (.goto 4, 3) := by decide +kernel
theorem d_Mo_isCut_41 : decode b_Mo_isCut 41 = .ok (.iconst 0, 1) := by decide +kernel
theorem d_Mo_isCut_42 : decode b_Mo_isCut 42 = .ok (.ireturn, 1) := by decide +kernel
theorem d_Mo_edgeOf_0 : decode b_Mo_edgeOf 0 = .ok (.iload_n 3, 1) := by decide +kernel
theorem d_Mo_edgeOf_1 : decode b_Mo_edgeOf 1 = .ok (.istore 4, 2) := by decide +kernel
theorem d_Mo_edgeOf_3 : decode b_Mo_edgeOf 3 = .ok (.iconst 0, 1) := by decide +kernel
theorem d_Mo_edgeOf_4 : decode b_Mo_edgeOf 4 = .ok (.istore 5, 2) := by decide +kernel
theorem d_Mo_edgeOf_6 : decode b_Mo_edgeOf 6 = .ok (.iload 5, 2) := by decide +kernel
theorem d_Mo_edgeOf_8 : decode b_Mo_edgeOf 8 = .ok (.iconst 3, 1) := by decide +kernel
theorem d_Mo_edgeOf_9 : decode b_Mo_edgeOf 9 = .ok (.if_icmp .ge 52, 3) := by decide +kernel
theorem d_Mo_edgeOf_12 : decode b_Mo_edgeOf 12 = .ok (.aload_n 0, 1) := by decide +kernel
theorem d_Mo_edgeOf_13 : decode b_Mo_edgeOf 13 = .ok (.iconst 3, 1) := by decide +kernel
theorem d_Mo_edgeOf_14 : decode b_Mo_edgeOf 14 = .ok (.iload_n 2, 1) := by decide +kernel
theorem d_Mo_edgeOf_15 : decode b_Mo_edgeOf 15 = .ok (.imul, 1) := by decide +kernel
theorem d_Mo_edgeOf_16 : decode b_Mo_edgeOf 16 = .ok (.iload 5, 2) := by decide +kernel
theorem d_Mo_edgeOf_18 : decode b_Mo_edgeOf 18 = .ok (.iadd, 1) := by decide +kernel
theorem d_Mo_edgeOf_19 : decode b_Mo_edgeOf 19 = .ok (.iload_n 1, 1) := by decide +kernel
theorem d_Mo_edgeOf_20 : decode b_Mo_edgeOf 20 = .ok (.invokevirtual 131, 3) := by decide +kernel
theorem d_Mo_edgeOf_23 : decode b_Mo_edgeOf 23 = .ok (.aload_n 0, 1) := by decide +kernel
theorem d_Mo_edgeOf_24 : decode b_Mo_edgeOf 24 = .ok (.iconst 3, 1) := by decide +kernel
theorem d_Mo_edgeOf_25 : decode b_Mo_edgeOf 25 = .ok (.iload_n 2, 1) := by decide +kernel
theorem d_Mo_edgeOf_26 : decode b_Mo_edgeOf 26 = .ok (.imul, 1) := by decide +kernel
theorem d_Mo_edgeOf_27 : decode b_Mo_edgeOf 27 = .ok (.iload 5, 2) := by decide +kernel
theorem d_Mo_edgeOf_29 : decode b_Mo_edgeOf 29 = .ok (.iconst 1, 1) := by decide +kernel
theorem d_Mo_edgeOf_30 : decode b_Mo_edgeOf 30 = .ok (.iadd, 1) := by decide +kernel
theorem d_Mo_edgeOf_31 : decode b_Mo_edgeOf 31 = .ok (.iconst 3, 1) := by decide +kernel
theorem d_Mo_edgeOf_32 : decode b_Mo_edgeOf 32 = .ok (.irem, 1) := by decide +kernel
theorem d_Mo_edgeOf_33 : decode b_Mo_edgeOf 33 = .ok (.iadd, 1) := by decide +kernel
theorem d_Mo_edgeOf_34 : decode b_Mo_edgeOf 34 = .ok (.iload_n 1, 1) := by decide +kernel
theorem d_Mo_edgeOf_35 : decode b_Mo_edgeOf 35 = .ok (.invokevirtual 131, 3) := by decide +kernel
theorem d_Mo_edgeOf_38 : decode b_Mo_edgeOf 38 = .ok (.if_icmp .ne 6, 3) := by decide +kernel
theorem d_Mo_edgeOf_41 : decode b_Mo_edgeOf 41 = .ok (.goto 14, 3) := by decide +kernel
theorem d_Mo_edgeOf_44 : decode b_Mo_edgeOf 44 = .ok (.iload 4, 2) := by decide +kernel
theorem d_Mo_edgeOf_46 : decode b_Mo_edgeOf 46 = .ok (.ifCond .ne 6, 3) := by decide +kernel
theorem d_Mo_edgeOf_49 : decode b_Mo_edgeOf 49 = .ok (.iload 5, 2) := by decide +kernel
theorem d_Mo_edgeOf_51 : decode b_Mo_edgeOf 51 = .ok (.ireturn, 1) := by decide +kernel
theorem d_Mo_edgeOf_52 : decode b_Mo_edgeOf 52 = .ok (.iinc 4 (-1), 3) := by decide +kernel
theorem d_Mo_edgeOf_55 : decode b_Mo_edgeOf 55 = .ok (.iinc 5 1, 3) := by decide +kernel
theorem d_Mo_edgeOf_58 : decode b_Mo_edgeOf 58 = .ok (.goto (-52), 3) := by decide +kernel
theorem d_Mo_edgeOf_61 : decode b_Mo_edgeOf 61 = .ok (.iconst (-1), 1) := by decide +kernel
theorem d_Mo_edgeOf_62 : decode b_Mo_edgeOf 62 = .ok (.ireturn, 1) := by decide +kernel
