theorem d_Sl_doubleHeight_0 : decode b_Sl_doubleHeight 0 = .ok (.iconst 2, 1) := by decide +kernel
theorem d_Sl_doubleHeight_1 : decode b_Sl_doubleHeight 1 = .ok (.iload_n 1, 1) := by decide +kernel
theorem d_Sl_doubleHeight_2 : decode b_Sl_doubleHeight 2 = .ok (.imul, 1) := by decide +kernel
theorem d_Sl_doubleHeight_3 : decode b_Sl_doubleHeight 3 = .ok (.iconst 1, 1) := by decide +kernel
theorem d_Sl_doubleHeight_4 : decode b_Sl_doubleHeight 4 = .ok (.iadd, 1) := by decide +kernel
theorem d_Sl_doubleHeight_5 : decode b_Sl_doubleHeight 5 = .ok (.aload_n 0, 1) := by decide +kernel
theorem d_Sl_doubleHeight_6 : decode b_Sl_doubleHeight 6 = .ok (.getfield 29, 3) := by decide +kernel
theorem d_Sl_doubleHeight_9 : decode b_Sl_doubleHeight 9 = .ok (.imul, 1) := by decide +kernel
theorem d_Sl_doubleHeight_10 : decode b_Sl_doubleHeight 10 = .ok (.ireturn, 1) := by decide +kernel
theorem d_Sl_hasLayer_0 : decode b_Sl_hasLayer 0 = .ok (.iload_n 1, 1) := by decide +kernel
theorem d_Sl_hasLayer_1 : decode b_Sl_hasLayer 1 = .ok (.ifCond .lt 15, 3) := by decide +kernel
theorem d_Sl_hasLayer_4 : decode b_Sl_hasLayer 4 = .ok (.iload_n 1, 1) := by decide +kernel
theorem d_Sl_hasLayer_5 : decode b_Sl_hasLayer 5 = .ok (.aload_n 0, 1) := by decide +kernel
theorem d_Sl_hasLayer_6 : decode b_Sl_hasLayer 6 = .ok (.getfield 37, 3) := by decide +kernel
theorem d_Sl_hasLayer_9 : decode b_Sl_hasLayer 9 = .ok (.if_icmp .ge 7, 3) := by decide +kernel
theorem d_Sl_hasLayer_12 : decode b_Sl_hasLayer 12 = .ok (.iconst 1, 1) := by decide +kernel
theorem d_Sl_hasLayer_13 : decode b_Sl_hasLayer 13 = .ok (.goto 4, 3) := by decide +kernel
theorem d_Sl_hasLayer_16 : decode b_Sl_hasLayer 16 = .ok (.iconst 0, 1) := by decide +kernel
theorem d_Sl_hasLayer_17 : decode b_Sl_hasLayer 17 = .ok (.ireturn, 1) := by decide +kernel
theorem d_Sl_isBelow_0 : decode b_Sl_isBelow 0 = .ok (.iconst 2, 1) := by decide +kernel
theorem d_Sl_isBelow_1 : decode b_Sl_isBelow 1 = .ok (.aload_n 0, 1) := by decide +kernel
theorem d_Sl_isBelow_2 : decode b_Sl_isBelow 2 = .ok (.getfield 18, 3) := by decide +kernel
theorem d_Sl_isBelow_5 : decode b_Sl_isBelow 5 = .ok (.getfield 73, 3) := by decide +kernel
theorem d_Sl_isBelow_8 : decode b_Sl_isBelow 8 = .ok (.iload_n 1, 1) := by decide +kernel
theorem d_Sl_isBelow_9 : decode b_Sl_isBelow 9 = .ok (.iaload, 1) := by decide +kernel
theorem d_Sl_isBelow_10 : decode b_Sl_isBelow 10 = .ok (.imul, 1) := by decide +kernel
theorem d_Sl_isBelow_11 : decode b_Sl_isBelow 11 = .ok (.aload_n 0, 1) := by decide +kernel
theorem d_Sl_isBelow_12 : decode b_Sl_isBelow 12 = .ok (.iload_n 2, 1) := by decide +kernel
theorem d_Sl_isBelow_13 : decode b_Sl_isBelow 13 = .ok (.invokevirtual 40, 3) := by decide +kernel
theorem d_Sl_isBelow_16 : decode b_Sl_isBelow 16 = .ok (.if_icmp .ge 7, 3) := by decide +kernel
theorem d_Sl_isBelow_19 : decode b_Sl_isBelow 19 = .ok (.iconst 1, 1) := by decide +kernel
theorem d_Sl_isBelow_20 : decode b_Sl_isBelow 20 = .ok (.goto 4, 3) := by decide +kernel
theorem d_Sl_isBelow_23 : decode b_Sl_isBelow 23 = .ok (.iconst 0, 1) := by decide +kernel
theorem d_Sl_isBelow_24 : decode b_Sl_isBelow 24 = .ok (.ireturn, 1) := by decide +kernel
theorem d_Sl_writeEnd_0 : decode b_Sl_writeEnd 0 = .ok (.iconst 2, 1) := by decide +kernel
theorem d_Sl_writeEnd_1 : decode b_Sl_writeEnd 1 = .ok (.aload_n 0, 1) := by decide +kernel
theorem d_Sl_writeEnd_2 : decode b_Sl_writeEnd 2 = .ok (.getfield 18, 3) := by decide +kernel
theorem d_Sl_writeEnd_5 : decode b_Sl_writeEnd 5 = .ok (.getfield 73, 3) := by decide +kernel
theorem d_Sl_writeEnd_8 : decode b_Sl_writeEnd 8 = .ok (.iload 4, 2) := by decide +kernel
theorem d_Sl_writeEnd_10 : decode b_Sl_writeEnd 10 = .ok (.iaload, 1) := by decide +kernel
theorem d_Sl_writeEnd_11 : decode b_Sl_writeEnd 11 = .ok (.aload_n 0, 1) := by decide +kernel
theorem d_Sl_writeEnd_12 : decode b_Sl_writeEnd 12 = .ok (.getfield 18, 3) := by decide +kernel
theorem d_Sl_writeEnd_15 : decode b_Sl_writeEnd 15 = .ok (.getfield 73, 3) := by decide +kernel
theorem d_Sl_writeEnd_18 : decode b_Sl_writeEnd 18 = .ok (.iload_n 3, 1) := by decide +kernel
theorem d_Sl_writeEnd_19 : decode b_Sl_writeEnd 19 = .ok (.iaload, 1) := by decide +kernel
theorem d_Sl_writeEnd_20 : decode b_Sl_writeEnd 20 = .ok (.isub, 1) := by decide +kernel
theorem d_Sl_writeEnd_21 : decode b_Sl_writeEnd 21 = .ok (.imul, 1) := by decide +kernel
theorem d_Sl_writeEnd_22 : decode b_Sl_writeEnd 22 = .ok (.istore 5, 2) := by decide +kernel
theorem d_Sl_writeEnd_24 : decode b_Sl_writeEnd 24 = .ok (.aload_n 0, 1) := by decide +kernel
theorem d_Sl_writeEnd_25 : decode b_Sl_writeEnd 25 = .ok (.iload_n 2, 1) := by decide +kernel
theorem d_Sl_writeEnd_26 : decode b_Sl_writeEnd 26 = .ok (.invokevirtual 40, 3) := by decide +kernel
theorem d_Sl_writeEnd_29 : decode b_Sl_writeEnd 29 = .ok (.iconst 2, 1) := by decide +kernel
theorem d_Sl_writeEnd_30 : decode b_Sl_writeEnd 30 = .ok (.aload_n 0, 1) := by decide +kernel
theorem d_Sl_writeEnd_31 : decode b_Sl_writeEnd 31 = .ok (.getfield 18, 3) := by decide +kernel
theorem d_Sl_writeEnd_34 : decode b_Sl_writeEnd 34 = .ok (.getfield 73, 3) := by decide +kernel
theorem d_Sl_writeEnd_37 : decode b_Sl_writeEnd 37 = .ok (.iload_n 3, 1) := by decide +kernel
theorem d_Sl_writeEnd_38 : decode b_Sl_writeEnd 38 = .ok (.iaload, 1) := by decide +kernel
theorem d_Sl_writeEnd_39 : decode b_Sl_writeEnd 39 = .ok (.imul, 1) := by decide +kernel
theorem d_Sl_writeEnd_40 : decode b_Sl_writeEnd 40 = .ok (.isub, 1) := by decide +kernel
theorem d_Sl_writeEnd_41 : decode b_Sl_writeEnd 41 = .ok (.istore 6, 2) := by decide +kernel
theorem d_Sl_writeEnd_43 : decode b_Sl_writeEnd 43 = .ok (.aload_n 0, 1) := by decide +kernel
theorem d_Sl_writeEnd_44 : decode b_Sl_writeEnd 44 = .ok (.getfield 9, 3) := by decide +kernel
theorem d_Sl_writeEnd_47 : decode b_Sl_writeEnd 47 = .ok (.iconst 3, 1) := by decide +kernel
theorem d_Sl_writeEnd_48 : decode b_Sl_writeEnd 48 = .ok (.iload_n 1, 1) := by decide +kernel
theorem d_Sl_writeEnd_49 : decode b_Sl_writeEnd 49 = .ok (.imul, 1) := by decide +kernel
theorem d_Sl_writeEnd_50 : decode b_Sl_writeEnd 50 = .ok (.iload 5, 2) := by decide +kernel
theorem d_Sl_writeEnd_52 : decode b_Sl_writeEnd 52 = .ok (.iastore, 1) := by decide +kernel
theorem d_Sl_writeEnd_53 : decode b_Sl_writeEnd 53 = .ok (.aload_n 0, 1) := by decide +kernel
theorem d_Sl_writeEnd_54 : decode b_Sl_writeEnd 54 = .ok (.getfield 9, 3) := by decide +kernel
theorem d_Sl_writeEnd_57 : decode b_Sl_writeEnd 57 = .ok (.iconst 3, 1) := by decide +kernel
theorem d_Sl_writeEnd_58 : decode b_Sl_writeEnd 58 = .ok (.iload_n 1, 1) := by decide +kernel
theorem d_Sl_writeEnd_59 : decode b_Sl_writeEnd 59 = .ok (.imul, 1) := by decide +kernel
theorem d_Sl_writeEnd_60 : decode b_Sl_writeEnd 60 = .ok (.iconst 1, 1) := by decide +kernel
theorem d_Sl_writeEnd_61 : decode b_Sl_writeEnd 61 = .ok (.iadd, 1) := by decide +kernel
theorem d_Sl_writeEnd_62 : decode b_Sl_writeEnd 62 = .ok (.aload_n 0, 1) := by decide +kernel
theorem d_Sl_writeEnd_63 : decode b_Sl_writeEnd 63 = .ok (.getfield 18, 3) := by decide +kernel
theorem d_Sl_writeEnd_66 : decode b_Sl_writeEnd 66 = .ok (.getfield 76, 3) := by decide +kernel
theorem d_Sl_writeEnd_69 : decode b_Sl_writeEnd 69 = .ok (.iload_n 3, 1) := by decide +kernel
theorem d_Sl_writeEnd_70 : decode b_Sl_writeEnd 70 = .ok (.iaload, 1) := by decide +kernel
theorem d_Sl_writeEnd_71 : decode b_Sl_writeEnd 71 = .ok (.iload 5, 2) := by decide +kernel
theorem d_Sl_writeEnd_73 : decode b_Sl_writeEnd 73 = .ok (.imul, 1) := by decide +kernel
theorem d_Sl_writeEnd_74 : decode b_Sl_writeEnd 74 = .ok (.aload_n 0, 1) := by decide +kernel
theorem d_Sl_writeEnd_75 : decode b_Sl_writeEnd 75 = .ok (.getfield 18, 3) := by decide +kernel
theorem d_Sl_writeEnd_78 : decode b_Sl_writeEnd 78 = .ok (.getfield 76, 3) := by decide +kernel
theorem d_Sl_writeEnd_81 : decode b_Sl_writeEnd 81 = .ok (.iload 4, 2) := by decide +kernel
theorem d_Sl_writeEnd_83 : decode b_Sl_writeEnd 83 = .ok (.iaload, 1) := by decide +kernel
theorem d_Sl_writeEnd_84 : decode b_Sl_writeEnd 84 = .ok (.aload_n 0, 1) := by decide +kernel
theorem d_Sl_writeEnd_85 : decode b_Sl_writeEnd 85 = .ok (.getfield 18, 3) := by decide +kernel
theorem d_Sl_writeEnd_88 : decode b_Sl_writeEnd 88 = .ok (.getfield 76, 3) := by decide +kernel
theorem d_Sl_writeEnd_91 : decode b_Sl_writeEnd 91 = .ok (.iload_n 3, 1) := by decide +kernel
theorem d_Sl_writeEnd_92 : decode b_Sl_writeEnd 92 = .ok (.iaload, 1) := by decide +kernel
theorem d_Sl_writeEnd_93 : decode b_Sl_writeEnd 93 = .ok (.isub, 1) := by decide +kernel
theorem d_Sl_writeEnd_94 : decode b_Sl_writeEnd 94 = .ok (.iload 6, 2) := by decide +kernel
theorem d_Sl_writeEnd_96 : decode b_Sl_writeEnd 96 = .ok (.imul, 1) := by decide +kernel
theorem d_Sl_writeEnd_97 : decode b_Sl_writeEnd 97 = .ok (.iadd, 1) := by decide +kernel
theorem d_Sl_writeEnd_98 : decode b_Sl_writeEnd 98 = .ok (.iastore, 1) := by decide +kernel
theorem d_Sl_writeEnd_99 : decode b_Sl_writeEnd 99 = .ok (.aload_n 0, 1) := by decide +kernel
theorem d_Sl_writeEnd_100 : decode b_Sl_writeEnd 100 = .ok (.getfield 9, 3) := by decide +kernel
theorem d_Sl_writeEnd_103 : decode b_Sl_writeEnd 103 = .ok (.iconst 3, 1) := by decide +kernel
theorem d_Sl_writeEnd_104 : decode b_Sl_writeEnd 104 = .ok (.iload_n 1, 1) := by decide +kernel
theorem d_Sl_writeEnd_105 : decode b_Sl_writeEnd 105 = .ok (.imul, 1) := by decide +kernel
theorem d_Sl_writeEnd_106 : decode b_Sl_writeEnd 106 = .ok (.iconst 2, 1) := by decide +kernel
theorem d_Sl_writeEnd_107 : decode b_Sl_writeEnd 107 = .ok (.iadd, 1) := by decide +kernel
theorem d_Sl_writeEnd_108 : decode b_Sl_writeEnd 108 = .ok (.aload_n 0, 1) := by decide +kernel
theorem d_Sl_writeEnd_109 : decode b_Sl_writeEnd 109 = .ok (.getfield 18, 3) := by decide +kernel
theorem d_Sl_writeEnd_112 : decode b_Sl_writeEnd 112 = .ok (.getfield 79, 3) := by decide +kernel
theorem d_Sl_writeEnd_115 : decode b_Sl_writeEnd 115 = .ok (.iload_n 3, 1) := by decide +kernel
theorem d_Sl_writeEnd_116 : decode b_Sl_writeEnd 116 = .ok (.iaload, 1) := by decide +kernel
theorem d_Sl_writeEnd_117 : decode b_Sl_writeEnd 117 = .ok (.iload 5, 2) := by decide +kernel
theorem d_Sl_writeEnd_119 : decode b_Sl_writeEnd 119 = .ok (.imul, 1) := by decide +kernel
theorem d_Sl_writeEnd_120 : decode b_Sl_writeEnd 120 = .ok (.aload_n 0, 1) := by decide +kernel
theorem d_Sl_writeEnd_121 : decode b_Sl_writeEnd 121 = .ok (.getfield 18, 3) := by decide +kernel
theorem d_Sl_writeEnd_124 : decode b_Sl_writeEnd 124 = .ok (.getfield 79, 3) := by decide +kernel
theorem d_Sl_writeEnd_127 : decode b_Sl_writeEnd 127 = .ok (.iload 4, 2) := by decide +kernel
theorem d_Sl_writeEnd_129 : decode b_Sl_writeEnd 129 = .ok (.iaload, 1) := by decide +kernel
theorem d_Sl_writeEnd_130 : decode b_Sl_writeEnd 130 = .ok (.aload_n 0, 1) := by decide +kernel
theorem d_Sl_writeEnd_131 : decode b_Sl_writeEnd 131 = .ok (.getfield 18, 3) := by decide +kernel
theorem d_Sl_writeEnd_134 : decode b_Sl_writeEnd 134 = .ok (.getfield 79, 3) := by decide +kernel
theorem d_Sl_writeEnd_137 : decode b_Sl_writeEnd 137 = .ok (.iload_n 3, 1) := by decide +kernel
theorem d_Sl_writeEnd_138 : decode b_Sl_writeEnd 138 = .ok (.iaload, 1) := by decide +kernel
theorem d_Sl_writeEnd_139 : decode b_Sl_writeEnd 139 = .ok (.isub, 1) := by decide +kernel
theorem d_Sl_writeEnd_140 : decode b_Sl_writeEnd 140 = .ok (.iload 6, 2) := by decide +kernel
theorem d_Sl_writeEnd_142 : decode b_Sl_writeEnd 142 = .ok (.imul, 1) := by decide +kernel
theorem d_Sl_writeEnd_143 : decode b_Sl_writeEnd 143 = .ok (.iadd, 1) := by decide +kernel
theorem d_Sl_writeEnd_144 : decode b_Sl_writeEnd 144 = .ok (.iastore, 1) := by decide +kernel
theorem d_Sl_writeEnd_145 : decode b_Sl_writeEnd 145 = .ok (.return_, 1) := by decide +kernel
theorem d_Sl_findEnds_0 : decode b_Sl_findEnds 0 = .ok (.aload_n 0, 1) := by decide +kernel
theorem d_Sl_findEnds_1 : decode b_Sl_findEnds 1 = .ok (.iload_n 1, 1) := by decide +kernel
theorem d_Sl_findEnds_2 : decode b_Sl_findEnds 2 = .ok (.invokevirtual 48, 3) := by decide +kernel
theorem d_Sl_findEnds_5 : decode b_Sl_findEnds 5 = .ok (.ifCond .eq 18, 3) := by decide +kernel
theorem d_Sl_findEnds_8 : decode b_Sl_findEnds 8 = .ok (.iload_n 2, 1) := by decide +kernel
theorem d_Sl_findEnds_9 : decode b_Sl_findEnds 9 = .ok (.ifCond .lt 14, 3) := by decide +kernel
theorem d_Sl_findEnds_12 : decode b_Sl_findEnds 12 = .ok (.iload_n 2, 1) := by decide +kernel
theorem d_Sl_findEnds_13 : decode b_Sl_findEnds 13 = .ok (.aload_n 0, 1) := by decide +kernel
theorem d_Sl_findEnds_14 : decode b_Sl_findEnds 14 = .ok (.getfield 18, 3) := by decide +kernel
theorem d_Sl_findEnds_17 : decode b_Sl_findEnds 17 = .ok (.getfield 60, 3) := by decide +kernel
theorem d_Sl_findEnds_20 : decode b_Sl_findEnds 20 = .ok (.if_icmp .lt 5, 3) := by decide +kernel
theorem d_Sl_findEnds_23 : decode b_Sl_findEnds 23 = .ok (.iconst 0, 1) := by decide +kernel
theorem d_Sl_findEnds_24 : decode b_Sl_findEnds 24 = .ok (.ireturn, 1) := by decide +kernel
theorem d_Sl_findEnds_25 : decode b_Sl_findEnds 25 = .ok (.iconst 0, 1) := by decide +kernel
theorem d_Sl_findEnds_26 : decode b_Sl_findEnds 26 = .ok (.istore_n 3, 1) := by decide +kernel
theorem d_Sl_findEnds_27 : decode b_Sl_findEnds 27 = .ok (.iconst 0, 1) := by decide +kernel
theorem d_Sl_findEnds_28 : decode b_Sl_findEnds 28 = .ok (.istore 4, 2) := by decide +kernel
theorem d_Sl_findEnds_30 : decode b_Sl_findEnds 30 = .ok (.iload 4, 2) := by decide +kernel
theorem d_Sl_findEnds_32 : decode b_Sl_findEnds 32 = .ok (.iconst 3, 1) := by decide +kernel
theorem d_Sl_findEnds_33 : decode b_Sl_findEnds 33 = .ok (.if_icmp .ge 110, 3) := by decide +kernel
theorem d_Sl_findEnds_36 : decode b_Sl_findEnds 36 = .ok (.iload_n 3, 1) := by decide +kernel
theorem d_Sl_findEnds_37 : decode b_Sl_findEnds 37 = .ok (.iconst 2, 1) := by decide +kernel
theorem d_Sl_findEnds_38 : decode b_Sl_findEnds 38 = .ok (.if_icmp .ge 105, 3) := by decide +kernel
theorem d_Sl_findEnds_41 : decode b_Sl_findEnds 41 = .ok (.aload_n 0, 1) := by decide +kernel
theorem d_Sl_findEnds_42 : decode b_Sl_findEnds 42 = .ok (.getfield 18, 3) := by decide +kernel
theorem d_Sl_findEnds_45 : decode b_Sl_findEnds 45 = .ok (.getfield 63, 3) := by decide +kernel
theorem d_Sl_findEnds_48 : decode b_Sl_findEnds 48 = .ok (.iconst 3, 1) := by decide +kernel
theorem d_Sl_findEnds_49 : decode b_Sl_findEnds 49 = .ok (.iload_n 2, 1) := by decide +kernel
theorem d_Sl_findEnds_50 : decode b_Sl_findEnds 50 = .ok (.imul, 1) := by decide +kernel
theorem d_Sl_findEnds_51 : decode b_Sl_findEnds 51 = .ok (.iload 4, 2) := by decide +kernel
theorem d_Sl_findEnds_53 : decode b_Sl_findEnds 53 = .ok (.iadd, 1) := by decide +kernel
theorem d_Sl_findEnds_54 : decode b_Sl_findEnds 54 = .ok (.iaload, 1) := by decide +kernel
theorem d_Sl_findEnds_55 : decode b_Sl_findEnds 55 = .ok (.istore 5, 2) := by decide +kernel
theorem d_Sl_findEnds_57 : decode b_Sl_findEnds 57 = .ok (.aload_n 0, 1) := by decide +kernel
theorem d_Sl_findEnds_58 : decode b_Sl_findEnds 58 = .ok (.getfield 18, 3) := by decide +kernel
theorem d_Sl_findEnds_61 : decode b_Sl_findEnds 61 = .ok (.getfield 63, 3) := by decide +kernel
theorem d_Sl_findEnds_64 : decode b_Sl_findEnds 64 = .ok (.iconst 3, 1) := by decide +kernel
theorem d_Sl_findEnds_65 : decode b_Sl_findEnds 65 = .ok (.iload_n 2, 1) := by decide +kernel
theorem d_Sl_findEnds_66 : decode b_Sl_findEnds 66 = .ok (.imul, 1) := by decide +kernel
theorem d_Sl_findEnds_67 : decode b_Sl_findEnds 67 = .ok (.iload 4, 2) := by decide +kernel
theorem d_Sl_findEnds_69 : decode b_Sl_findEnds 69 = .ok (.iconst 1, 1) := by decide +kernel
theorem d_Sl_findEnds_70 : decode b_Sl_findEnds 70 = .ok (.iadd, 1) := by decide +kernel
theorem d_Sl_findEnds_71 : decode b_Sl_findEnds 71 = .ok (.iconst 3, 1) := by decide +kernel
theorem d_Sl_findEnds_72 : decode b_Sl_findEnds 72 = .ok (.irem, 1) := by decide +kernel
theorem d_Sl_findEnds_73 : decode b_Sl_findEnds 73 = .ok (.iadd, 1) := by decide +kernel
theorem d_Sl_findEnds_74 : decode b_Sl_findEnds 74 = .ok (.iaload, 1) := by decide +kernel
theorem d_Sl_findEnds_75 : decode b_Sl_findEnds 75 = .ok (.istore 6, 2) := by decide +kernel
theorem d_Sl_findEnds_77 : decode b_Sl_findEnds 77 = .ok (.aload_n 0, 1) := by decide +kernel
theorem d_Sl_findEnds_78 : decode b_Sl_findEnds 78 = .ok (.iload 5, 2) := by decide +kernel
theorem d_Sl_findEnds_80 : decode b_Sl_findEnds 80 = .ok (.iload_n 1, 1) := by decide +kernel
theorem d_Sl_findEnds_81 : decode b_Sl_findEnds 81 = .ok (.invokevirtual 66, 3) := by decide +kernel
theorem d_Sl_findEnds_84 : decode b_Sl_findEnds 84 = .ok (.aload_n 0, 1) := by decide +kernel
theorem d_Sl_findEnds_85 : decode b_Sl_findEnds 85 = .ok (.iload 6, 2) := by decide +kernel
theorem d_Sl_findEnds_87 : decode b_Sl_findEnds 87 = .ok (.iload_n 1, 1) := by decide +kernel
theorem d_Sl_findEnds_88 : decode b_Sl_findEnds 88 = .ok (.invokevirtual 66, 3) := by decide +kernel
theorem d_Sl_findEnds_91 : decode b_Sl_findEnds 91 = .ok (.if_icmp .eq 46, 3) := by decide +kernel
theorem d_Sl_findEnds_94 : decode b_Sl_findEnds 94 = .ok (.aload_n 0, 1) := by decide +kernel
theorem d_Sl_findEnds_95 : decode b_Sl_findEnds 95 = .ok (.iload_n 3, 1) := by decide +kernel
theorem d_Sl_findEnds_96 : decode b_Sl_findEnds 96 = .ok (.iload_n 1, 1) := by decide +kernel
theorem d_Sl_findEnds_97 : decode b_Sl_findEnds 97 = .ok (.aload_n 0, 1) := by decide +kernel
theorem d_Sl_findEnds_98 : decode b_Sl_findEnds 98 = .ok (.iload 5, 2) := by decide +kernel
theorem d_Sl_findEnds_100 : decode b_Sl_findEnds 100 = .ok (.iload_n 1, 1) := by decide +kernel
theorem d_Sl_findEnds_101 : decode b_Sl_findEnds 101 = .ok (.invokevirtual 66, 3) := by decide +kernel
theorem d_Sl_findEnds_104 : decode b_Sl_findEnds 104 = .ok (.ifCond .eq 8, 3) := by decide +kernel
theorem d_Sl_findEnds_107 : decode b_Sl_findEnds 107 = .ok (.iload 5, 2) := by decide +kernel
theorem d_Sl_findEnds_109 : decode b_Sl_findEnds 109 = .ok (.goto 5, 3) := by decide +kernel
theorem d_Sl_findEnds_112 : decode b_Sl_findEnds 112 = .ok (.iload 6, 2) := by decide +kernel
theorem d_Sl_findEnds_114 : decode b_Sl_findEnds 114 = .ok (.aload_n 0, 1) := by decide +kernel
theorem d_Sl_findEnds_115 : decode b_Sl_findEnds 115 = .ok (.iload 5, 2) := by decide +kernel
theorem d_Sl_findEnds_117 : decode b_Sl_findEnds 117 = .ok (.iload_n 1, 1) := by decide +kernel
theorem d_Sl_findEnds_118 : decode b_Sl_findEnds 118 = .ok (.invokevirtual 66, 3) := by decide +kernel
theorem d_Sl_findEnds_121 : decode b_Sl_findEnds 121 = .ok (.ifCond .eq 8, 3) := by decide +kernel
theorem d_Sl_findEnds_124 : decode b_Sl_findEnds 124 = .ok (.iload 6, 2) := by decide +kernel
theorem d_Sl_findEnds_126 : decode b_Sl_findEnds 126 = .ok (.goto 5, 3) := by decide +kernel
theorem d_Sl_findEnds_129 : decode b_Sl_findEnds 129 = .ok (.iload 5, 2) := by decide +kernel
theorem d_Sl_findEnds_131 : decode b_Sl_findEnds 131 = .ok (.invokevirtual 69, 3) := by decide +kernel
theorem d_Sl_findEnds_134 : decode b_Sl_findEnds 134 = .ok (.iinc 3 1, 3) := by decide +kernel
theorem d_Sl_findEnds_137 : decode b_Sl_findEnds 137 = .ok (.iinc 4 1, 3) := by decide +kernel
theorem d_Sl_findEnds_140 : decode b_Sl_findEnds 140 = .ok (.goto (-110), 3) := by decide +kernel
theorem d_Sl_findEnds_143 : decode b_Sl_findEnds 143 = .ok (.iload_n 3, 1) := by decide +kernel
theorem d_Sl_findEnds_144 : decode b_Sl_findEnds 144 = .ok (.iconst 2, 1) := by decide +kernel
theorem d_Sl_findEnds_145 : decode b_Sl_findEnds 145 = .ok (.if_icmp .ne 7, 3) := by decide +kernel
theorem d_Sl_findEnds_148 : decode b_Sl_findEnds 148 = .ok (.iconst 1, 1) := by decide +kernel
theorem d_Sl_findEnds_149 : decode b_Sl_findEnds 149 = .ok (.goto 4, 3) := by decide +kernel
theorem d_Sl_findEnds_152 : decode b_Sl_findEnds 152 = .ok (.iconst 0, 1) := by decide +kernel
theorem d_Sl_findEnds_153 : decode b_Sl_findEnds 153 = .ok (.ireturn, 1) := by decide +kernel
theorem d_Sl_doubleCentre_0 : decode b_Sl_doubleCentre 0 = .ok (.bipush 20, 2) := by decide +kernel
theorem d_Sl_doubleCentre_2 : decode b_Sl_doubleCentre 2 = .ok (.iload_n 0, 1) := by decide +kernel
theorem d_Sl_doubleCentre_3 : decode b_Sl_doubleCentre 3 = .ok (.imul, 1) := by decide +kernel
theorem d_Sl_doubleCentre_4 : decode b_Sl_doubleCentre 4 = .ok (.bipush 9, 2) := by decide +kernel
theorem d_Sl_doubleCentre_6 : decode b_Sl_doubleCentre 6 = .ok (.iadd, 1) := by decide +kernel
theorem d_Sl_doubleCentre_7 : decode b_Sl_doubleCentre 7 = .ok (.ireturn, 1) := by decide +kernel
theorem d_Sl_cellsRightOfLine_0 : decode b_Sl_cellsRightOfLine 0 = .ok (.aload_n 0, 1) := by decide +kernel
theorem d_Sl_cellsRightOfLine_1 : decode b_Sl_cellsRightOfLine 1 = .ok (.getfield 9, 3) := by decide +kernel
theorem d_Sl_cellsRightOfLine_4 : decode b_Sl_cellsRightOfLine 4 = .ok (.iload_n 1, 1) := by decide +kernel
theorem d_Sl_cellsRightOfLine_5 : decode b_Sl_cellsRightOfLine 5 = .ok (.iconst 1, 1) := by decide +kernel
theorem d_Sl_cellsRightOfLine_6 : decode b_Sl_cellsRightOfLine 6 = .ok (.iadd, 1) := by decide +kernel
theorem d_Sl_cellsRightOfLine_7 : decode b_Sl_cellsRightOfLine 7 = .ok (.iaload, 1) := by decide +kernel
theorem d_Sl_cellsRightOfLine_8 : decode b_Sl_cellsRightOfLine 8 = .ok (.i2l, 1) := by decide +kernel
theorem d_Sl_cellsRightOfLine_9 : decode b_Sl_cellsRightOfLine 9 = .ok (.lload 5, 2) := by decide +kernel
theorem d_Sl_cellsRightOfLine_11 : decode b_Sl_cellsRightOfLine 11 = .ok (.lmul, 1) := by decide +kernel
theorem d_Sl_cellsRightOfLine_12 : decode b_Sl_cellsRightOfLine 12 = .ok (.aload_n 0, 1) := by decide +kernel
theorem d_Sl_cellsRightOfLine_13 : decode b_Sl_cellsRightOfLine 13 = .ok (.getfield 9, 3) := by decide +kernel
theorem d_Sl_cellsRightOfLine_16 : decode b_Sl_cellsRightOfLine 16 = .ok (.iload_n 2, 1) := by decide +kernel
theorem d_Sl_cellsRightOfLine_17 : decode b_Sl_cellsRightOfLine 17 = .ok (.iconst 1, 1) := by decide +kernel
theorem d_Sl_cellsRightOfLine_18 : decode b_Sl_cellsRightOfLine 18 = .ok (.iadd, 1) := by decide +kernel
theorem d_Sl_cellsRightOfLine_19 : decode b_Sl_cellsRightOfLine 19 = .ok (.iaload, 1) := by decide +kernel
theorem d_Sl_cellsRightOfLine_20 : decode b_Sl_cellsRightOfLine 20 = .ok (.i2l, 1) := by decide +kernel
theorem d_Sl_cellsRightOfLine_21 : decode b_Sl_cellsRightOfLine 21 = .ok (.lload_n 3, 1) := by decide +kernel
theorem d_Sl_cellsRightOfLine_22 : decode b_Sl_cellsRightOfLine 22 = .ok (.lmul, 1) := by decide +kernel
theorem d_Sl_cellsRightOfLine_23 : decode b_Sl_cellsRightOfLine 23 = .ok (.ladd, 1) := by decide +kernel
theorem d_Sl_cellsRightOfLine_24 : decode b_Sl_cellsRightOfLine 24 = .ok (.lstore 7, 2) := by decide +kernel
theorem d_Sl_cellsRightOfLine_26 : decode b_Sl_cellsRightOfLine 26 = .ok (.aload_n 0, 1) := by decide +kernel
theorem d_Sl_cellsRightOfLine_27 : decode b_Sl_cellsRightOfLine 27 = .ok (.getfield 9, 3) := by decide +kernel
theorem d_Sl_cellsRightOfLine_30 : decode b_Sl_cellsRightOfLine 30 = .ok (.iload_n 1, 1) := by decide +kernel
theorem d_Sl_cellsRightOfLine_31 : decode b_Sl_cellsRightOfLine 31 = .ok (.iaload, 1) := by decide +kernel
theorem d_Sl_cellsRightOfLine_32 : decode b_Sl_cellsRightOfLine 32 = .ok (.i2l, 1) := by decide +kernel
theorem d_Sl_cellsRightOfLine_33 : decode b_Sl_cellsRightOfLine 33 = .ok (.lload 5, 2) := by decide +kernel
theorem d_Sl_cellsRightOfLine_35 : decode b_Sl_cellsRightOfLine 35 = .ok (.lmul, 1) := by decide +kernel
theorem d_Sl_cellsRightOfLine_36 : decode b_Sl_cellsRightOfLine 36 = .ok (.aload_n 0, 1) := by decide +kernel
theorem d_Sl_cellsRightOfLine_37 : decode b_Sl_cellsRightOfLine 37 = .ok (.getfield 9, 3) := by decide +kernel
theorem d_Sl_cellsRightOfLine_40 : decode b_Sl_cellsRightOfLine 40 = .ok (.iload_n 2, 1) := by decide +kernel
theorem d_Sl_cellsRightOfLine_41 : decode b_Sl_cellsRightOfLine 41 = .ok (.iaload, 1) := by decide +kernel
theorem d_Sl_cellsRightOfLine_42 : decode b_Sl_cellsRightOfLine 42 = .ok (.i2l, 1) := by decide +kernel
theorem d_Sl_cellsRightOfLine_43 : decode b_Sl_cellsRightOfLine 43 = .ok (.lload_n 3, 1) := by decide +kernel
theorem d_Sl_cellsRightOfLine_44 : decode b_Sl_cellsRightOfLine 44 = .ok (.lmul, 1) := by decide +kernel
theorem d_Sl_cellsRightOfLine_45 : decode b_Sl_cellsRightOfLine 45 = .ok (.ladd, 1) := by decide +kernel
theorem d_Sl_cellsRightOfLine_46 : decode b_Sl_cellsRightOfLine 46 = .ok (.lstore 9, 2) := by decide +kernel
theorem d_Sl_cellsRightOfLine_48 : decode b_Sl_cellsRightOfLine 48 = .ok (.lload 9, 2) := by decide +kernel
theorem d_Sl_cellsRightOfLine_50 : decode b_Sl_cellsRightOfLine 50 = .ok (.lconst 0, 1) := by decide +kernel
theorem d_Sl_cellsRightOfLine_51 : decode b_Sl_cellsRightOfLine 51 = .ok (.lcmp, 1) := by decide +kernel
theorem d_Sl_cellsRightOfLine_52 : decode b_Sl_cellsRightOfLine 52 = .ok (.ifCond .gt 5, 3) := by decide +kernel
theorem d_Sl_cellsRightOfLine_55 : decode b_Sl_cellsRightOfLine 55 = .ok (.iconst 0, 1) := by decide +kernel
theorem d_Sl_cellsRightOfLine_56 : decode b_Sl_cellsRightOfLine 56 = .ok (.ireturn, 1) := by decide +kernel
theorem d_Sl_cellsRightOfLine_57 : decode b_Sl_cellsRightOfLine 57 = .ok (.ldc2_w 95, 3) := by decide +kernel
theorem d_Sl_cellsRightOfLine_60 : decode b_Sl_cellsRightOfLine 60 = .ok (.lload 7, 2) := by decide +kernel
theorem d_Sl_cellsRightOfLine_62 : decode b_Sl_cellsRightOfLine 62 = .ok (.lmul, 1) := by decide +kernel
theorem d_Sl_cellsRightOfLine_63 : decode b_Sl_cellsRightOfLine 63 = .ok (.ldc2_w 97, 3) := by decide +kernel
theorem d_Sl_cellsRightOfLine_66 : decode b_Sl_cellsRightOfLine 66 = .ok (.lload 9, 2) := by decide +kernel
theorem d_Sl_cellsRightOfLine_68 : decode b_Sl_cellsRightOfLine 68 = .ok (.lmul, 1) := by decide +kernel
theorem d_Sl_cellsRightOfLine_69 : decode b_Sl_cellsRightOfLine 69 = .ok (.ladd, 1) := by decide +kernel
theorem d_Sl_cellsRightOfLine_70 : decode b_Sl_cellsRightOfLine 70 = .ok (.ldc2_w 99, 3) := by decide +kernel
theorem d_Sl_cellsRightOfLine_73 : decode b_Sl_cellsRightOfLine 73 = .ok (.lload 9, 2) := by decide +kernel
theorem d_Sl_cellsRightOfLine_75 : decode b_Sl_cellsRightOfLine 75 = .ok (.lmul, 1) := by decide +kernel
theorem d_Sl_cellsRightOfLine_76 : decode b_Sl_cellsRightOfLine 76 = .ok (.ldiv, 1) := by decide +kernel
theorem d_Sl_cellsRightOfLine_77 : decode b_Sl_cellsRightOfLine 77 = .ok (.l2i, 1) := by decide +kernel
theorem d_Sl_cellsRightOfLine_78 : decode b_Sl_cellsRightOfLine 78 = .ok (.istore 11, 2) := by decide +kernel
theorem d_Sl_cellsRightOfLine_80 : decode b_Sl_cellsRightOfLine 80 = .ok (.sipush 4095, 3) := by decide +kernel
theorem d_Sl_cellsRightOfLine_83 : decode b_Sl_cellsRightOfLine 83 = .ok (.sipush 4095, 3) := by decide +kernel
theorem d_Sl_cellsRightOfLine_86 : decode b_Sl_cellsRightOfLine 86 = .ok (.iload 11, 2) := by decide +kernel
theorem d_Sl_cellsRightOfLine_88 : decode b_Sl_cellsRightOfLine 88 = .ok (.ishl, 1) := by decide +kernel
theorem d_Sl_cellsRightOfLine_89 : decode b_Sl_cellsRightOfLine 89 = .ok (.iand, 1) := by decide +kernel
theorem d_Sl_cellsRightOfLine_90 : decode b_Sl_cellsRightOfLine 90 = .ok (.ireturn, 1) := by decide +kernel
theorem d_Sl_cellsRightOfCut_0 : decode b_Sl_cellsRightOfCut 0 = .ok (.iload_n 1, 1) := by decide +kernel
theorem d_Sl_cellsRightOfCut_1 : decode b_Sl_cellsRightOfCut 1 = .ok (.invokestatic 88, 3) := by decide +kernel
theorem d_Sl_cellsRightOfCut_4 : decode b_Sl_cellsRightOfCut 4 = .ok (.istore_n 2, 1) := by decide +kernel
theorem d_Sl_cellsRightOfCut_5 : decode b_Sl_cellsRightOfCut 5 = .ok (.iconst 2, 1) := by decide +kernel
theorem d_Sl_cellsRightOfCut_6 : decode b_Sl_cellsRightOfCut 6 = .ok (.aload_n 0, 1) := by decide +kernel
theorem d_Sl_cellsRightOfCut_7 : decode b_Sl_cellsRightOfCut 7 = .ok (.getfield 9, 3) := by decide +kernel
theorem d_Sl_cellsRightOfCut_10 : decode b_Sl_cellsRightOfCut 10 = .ok (.iconst 2, 1) := by decide +kernel
theorem d_Sl_cellsRightOfCut_11 : decode b_Sl_cellsRightOfCut 11 = .ok (.iaload, 1) := by decide +kernel
theorem d_Sl_cellsRightOfCut_12 : decode b_Sl_cellsRightOfCut 12 = .ok (.imul, 1) := by decide +kernel
theorem d_Sl_cellsRightOfCut_13 : decode b_Sl_cellsRightOfCut 13 = .ok (.iload_n 2, 1) := by decide +kernel
theorem d_Sl_cellsRightOfCut_14 : decode b_Sl_cellsRightOfCut 14 = .ok (.aload_n 0, 1) := by decide +kernel
theorem d_Sl_cellsRightOfCut_15 : decode b_Sl_cellsRightOfCut 15 = .ok (.getfield 9, 3) := by decide +kernel
theorem d_Sl_cellsRightOfCut_18 : decode b_Sl_cellsRightOfCut 18 = .ok (.iconst 0, 1) := by decide +kernel
theorem d_Sl_cellsRightOfCut_19 : decode b_Sl_cellsRightOfCut 19 = .ok (.iaload, 1) := by decide +kernel
theorem d_Sl_cellsRightOfCut_20 : decode b_Sl_cellsRightOfCut 20 = .ok (.imul, 1) := by decide +kernel
theorem d_Sl_cellsRightOfCut_21 : decode b_Sl_cellsRightOfCut 21 = .ok (.isub, 1) := by decide +kernel
theorem d_Sl_cellsRightOfCut_22 : decode b_Sl_cellsRightOfCut 22 = .ok (.istore_n 3, 1) := by decide +kernel
theorem d_Sl_cellsRightOfCut_23 : decode b_Sl_cellsRightOfCut 23 = .ok (.iconst 2, 1) := by decide +kernel
theorem d_Sl_cellsRightOfCut_24 : decode b_Sl_cellsRightOfCut 24 = .ok (.aload_n 0, 1) := by decide +kernel
theorem d_Sl_cellsRightOfCut_25 : decode b_Sl_cellsRightOfCut 25 = .ok (.getfield 9, 3) := by decide +kernel
theorem d_Sl_cellsRightOfCut_28 : decode b_Sl_cellsRightOfCut 28 = .ok (.iconst 5, 1) := by decide +kernel
theorem d_Sl_cellsRightOfCut_29 : decode b_Sl_cellsRightOfCut 29 = .ok (.iaload, 1) := by decide +kernel
theorem d_Sl_cellsRightOfCut_30 : decode b_Sl_cellsRightOfCut 30 = .ok (.imul, 1) := by decide +kernel
theorem d_Sl_cellsRightOfCut_31 : decode b_Sl_cellsRightOfCut 31 = .ok (.iload_n 2, 1) := by decide +kernel
theorem d_Sl_cellsRightOfCut_32 : decode b_Sl_cellsRightOfCut 32 = .ok (.aload_n 0, 1) := by decide +kernel
theorem d_Sl_cellsRightOfCut_33 : decode b_Sl_cellsRightOfCut 33 = .ok (.getfield 9, 3) := by decide +kernel
theorem d_Sl_cellsRightOfCut_36 : decode b_Sl_cellsRightOfCut 36 = .ok (.iconst 3, 1) := by decide +kernel
theorem d_Sl_cellsRightOfCut_37 : decode b_Sl_cellsRightOfCut 37 = .ok (.iaload, 1) := by decide +kernel
theorem d_Sl_cellsRightOfCut_38 : decode b_Sl_cellsRightOfCut 38 = .ok (.imul, 1) := by decide +kernel
theorem d_Sl_cellsRightOfCut_39 : decode b_Sl_cellsRightOfCut 39 = .ok (.isub, 1) := by decide +kernel
theorem d_Sl_cellsRightOfCut_40 : decode b_Sl_cellsRightOfCut 40 = .ok (.istore 4, 2) := by decide +kernel
theorem d_Sl_cellsRightOfCut_42 : decode b_Sl_cellsRightOfCut 42 = .ok (.iload_n 3, 1) := by decide +kernel
theorem d_Sl_cellsRightOfCut_43 : decode b_Sl_cellsRightOfCut 43 = .ok (.ifCond .le 7, 3) := by decide +kernel
theorem d_Sl_cellsRightOfCut_46 : decode b_Sl_cellsRightOfCut 46 = .ok (.iconst 1, 1) := by decide +kernel
theorem d_Sl_cellsRightOfCut_47 : decode b_Sl_cellsRightOfCut 47 = .ok (.goto 4, 3) := by decide +kernel
theorem d_Sl_cellsRightOfCut_50 : decode b_Sl_cellsRightOfCut 50 = .ok (.iconst 0, 1) := by decide +kernel
theorem d_Sl_cellsRightOfCut_51 : decode b_Sl_cellsRightOfCut 51 = .ok (.iload 4, 2) := by decide +kernel
theorem d_Sl_cellsRightOfCut_53 : decode b_Sl_cellsRightOfCut 53 = .ok (.ifCond .le 7, 3) := by decide +kernel
theorem d_Sl_cellsRightOfCut_56 : decode b_Sl_cellsRightOfCut 56 = .ok (.iconst 1, 1) := by decide +kernel
theorem d_Sl_cellsRightOfCut_57 : decode b_Sl_cellsRightOfCut 57 = .ok (.goto 4, 3) := by decide +kernel
theorem d_Sl_cellsRightOfCut_60 : decode b_Sl_cellsRightOfCut 60 = .ok (.iconst 0, 1) := by decide +kernel
theorem d_Sl_cellsRightOfCut_61 : decode b_Sl_cellsRightOfCut 61 = .ok (.if_icmp .ne 5, 3) := by decide +kernel
theorem d_Sl_cellsRightOfCut_64 : decode b_Sl_cellsRightOfCut 64 = .ok (.iconst 0, 1) := by decide +kernel
theorem d_Sl_cellsRightOfCut_65 : decode b_Sl_cellsRightOfCut 65 = .ok (.ireturn, 1) := by decide +kernel
theorem d_Sl_cellsRightOfCut_66 : decode b_Sl_cellsRightOfCut 66 = .ok (.iload_n 3, 1) := by decide +kernel
theorem d_Sl_cellsRightOfCut_67 : decode b_Sl_cellsRightOfCut 67 = .ok (.ifCond .le 18, 3) := by decide +kernel
theorem d_Sl_cellsRightOfCut_70 : decode b_Sl_cellsRightOfCut 70 = .ok (.aload_n 0, 1) := by decide +kernel
theorem d_Sl_cellsRightOfCut_71 : decode b_Sl_cellsRightOfCut 71 = .ok (.iconst 3, 1) := by decide +kernel
theorem d_Sl_cellsRightOfCut_72 : decode b_Sl_cellsRightOfCut 72 = .ok (.iconst 0, 1) := by decide +kernel
theorem d_Sl_cellsRightOfCut_73 : decode b_Sl_cellsRightOfCut 73 = .ok (.iload 4, 2) := by decide +kernel
theorem d_Sl_cellsRightOfCut_75 : decode b_Sl_cellsRightOfCut 75 = .ok (.ineg, 1) := by decide +kernel
theorem d_Sl_cellsRightOfCut_76 : decode b_Sl_cellsRightOfCut 76 = .ok (.i2l, 1) := by decide +kernel
theorem d_Sl_cellsRightOfCut_77 : decode b_Sl_cellsRightOfCut 77 = .ok (.iload_n 3, 1) := by decide +kernel
theorem d_Sl_cellsRightOfCut_78 : decode b_Sl_cellsRightOfCut 78 = .ok (.i2l, 1) := by decide +kernel
theorem d_Sl_cellsRightOfCut_79 : decode b_Sl_cellsRightOfCut 79 = .ok (.invokevirtual 91, 3) := by decide +kernel
theorem d_Sl_cellsRightOfCut_82 : decode b_Sl_cellsRightOfCut 82 = .ok (.goto 15, 3) := by decide +kernel
theorem d_Sl_cellsRightOfCut_85 : decode b_Sl_cellsRightOfCut 85 = .ok (.aload_n 0, 1) := by decide +kernel
theorem d_Sl_cellsRightOfCut_86 : decode b_Sl_cellsRightOfCut 86 = .ok (.iconst 0, 1) := by decide +kernel
theorem d_Sl_cellsRightOfCut_87 : decode b_Sl_cellsRightOfCut 87 = .ok (.iconst 3, 1) := by decide +kernel
theorem d_Sl_cellsRightOfCut_88 : decode b_Sl_cellsRightOfCut 88 = .ok (.iload_n 3, 1) := by decide +kernel
theorem d_Sl_cellsRightOfCut_89 : decode b_Sl_cellsRightOfCut 89 = .ok (.ineg, 1) := by decide +kernel
theorem d_Sl_cellsRightOfCut_90 : decode b_Sl_cellsRightOfCut 90 = .ok (.i2l, 1) := by decide +kernel
theorem d_Sl_cellsRightOfCut_91 : decode b_Sl_cellsRightOfCut 91 = .ok (.iload 4, 2) := by decide +kernel
theorem d_Sl_cellsRightOfCut_93 : decode b_Sl_cellsRightOfCut 93 = .ok (.i2l, 1) := by decide +kernel
theorem d_Sl_cellsRightOfCut_94 : decode b_Sl_cellsRightOfCut 94 = .ok (.invokevirtual 91, 3) := by decide +kernel
theorem d_Sl_cellsRightOfCut_97 : decode b_Sl_cellsRightOfCut 97 = .ok (.ireturn, 1) := by decide +kernel
theorem d_Sl_fillLayer_0 : decode b_Sl_fillLayer 0 = .ok (.iconst 0, 1) := by decide +kernel
theorem d_Sl_fillLayer_1 : decode b_Sl_fillLayer 1 = .ok (.istore_n 2, 1) := by decide +kernel
theorem d_Sl_fillLayer_2 : decode b_Sl_fillLayer 2 = .ok (.iload_n 2, 1) := by decide +kernel
theorem d_Sl_fillLayer_3 : decode b_Sl_fillLayer 3 = .ok (.bipush 12, 2) := by decide +kernel
theorem d_Sl_fillLayer_5 : decode b_Sl_fillLayer 5 = .ok (.if_icmp .ge 21, 3) := by decide +kernel
theorem d_Sl_fillLayer_8 : decode b_Sl_fillLayer 8 = .ok (.aload_n 0, 1) := by decide +kernel
theorem d_Sl_fillLayer_9 : decode b_Sl_fillLayer 9 = .ok (.getfield 22, 3) := by decide +kernel
theorem d_Sl_fillLayer_12 : decode b_Sl_fillLayer 12 = .ok (.iload_n 1, 1) := by decide +kernel
theorem d_Sl_fillLayer_13 : decode b_Sl_fillLayer 13 = .ok (.bipush 12, 2) := by decide +kernel
theorem d_Sl_fillLayer_15 : decode b_Sl_fillLayer 15 = .ok (.imul, 1) := by decide +kernel
theorem d_Sl_fillLayer_16 : decode b_Sl_fillLayer 16 = .ok (.iload_n 2, 1) := by decide +kernel
theorem d_Sl_fillLayer_17 : decode b_Sl_fillLayer 17 = .ok (.iadd, 1) := by decide +kernel
theorem d_Sl_fillLayer_18 : decode b_Sl_fillLayer 18 = .ok (.iconst 0, 1) := by decide +kernel
theorem d_Sl_fillLayer_19 : decode b_Sl_fillLayer 19 = .ok (.iastore, 1) := by decide +kernel
theorem d_Sl_fillLayer_20 : decode b_Sl_fillLayer 20 = .ok (.iinc 2 1, 3) := by decide +kernel
theorem d_Sl_fillLayer_23 : decode b_Sl_fillLayer 23 = .ok (.goto (-21), 3) := by decide +kernel
theorem d_Sl_fillLayer_26 : decode b_Sl_fillLayer 26 = .ok (.iconst 0, 1) := by decide +kernel
theorem d_Sl_fillLayer_27 : decode b_Sl_fillLayer 27 = .ok (.istore_n 2, 1) := by decide +kernel
theorem d_Sl_fillLayer_28 : decode b_Sl_fillLayer 28 = .ok (.iload_n 2, 1) := by decide +kernel
theorem d_Sl_fillLayer_29 : decode b_Sl_fillLayer 29 = .ok (.aload_n 0, 1) := by decide +kernel
theorem d_Sl_fillLayer_30 : decode b_Sl_fillLayer 30 = .ok (.getfield 18, 3) := by decide +kernel
theorem d_Sl_fillLayer_33 : decode b_Sl_fillLayer 33 = .ok (.getfield 60, 3) := by decide +kernel
theorem d_Sl_fillLayer_36 : decode b_Sl_fillLayer 36 = .ok (.if_icmp .ge 51, 3) := by decide +kernel
theorem d_Sl_fillLayer_39 : decode b_Sl_fillLayer 39 = .ok (.aload_n 0, 1) := by decide +kernel
theorem d_Sl_fillLayer_40 : decode b_Sl_fillLayer 40 = .ok (.iload_n 1, 1) := by decide +kernel
theorem d_Sl_fillLayer_41 : decode b_Sl_fillLayer 41 = .ok (.iload_n 2, 1) := by decide +kernel
theorem d_Sl_fillLayer_42 : decode b_Sl_fillLayer 42 = .ok (.invokevirtual 82, 3) := by decide +kernel
theorem d_Sl_fillLayer_45 : decode b_Sl_fillLayer 45 = .ok (.ifCond .eq 36, 3) := by decide +kernel
theorem d_Sl_fillLayer_48 : decode b_Sl_fillLayer 48 = .ok (.iconst 0, 1) := by decide +kernel
theorem d_Sl_fillLayer_49 : decode b_Sl_fillLayer 49 = .ok (.istore_n 3, 1) := by decide +kernel
theorem d_Sl_fillLayer_50 : decode b_Sl_fillLayer 50 = .ok (.iload_n 3, 1) := by decide +kernel
theorem d_Sl_fillLayer_51 : decode b_Sl_fillLayer 51 = .ok (.bipush 12, 2) := by decide +kernel
theorem d_Sl_fillLayer_53 : decode b_Sl_fillLayer 53 = .ok (.if_icmp .ge 28, 3) := by decide +kernel
theorem d_Sl_fillLayer_56 : decode b_Sl_fillLayer 56 = .ok (.aload_n 0, 1) := by decide +kernel
theorem d_Sl_fillLayer_57 : decode b_Sl_fillLayer 57 = .ok (.getfield 22, 3) := by decide +kernel
theorem d_Sl_fillLayer_60 : decode b_Sl_fillLayer 60 = .ok (.iload_n 1, 1) := by decide +kernel
theorem d_Sl_fillLayer_61 : decode b_Sl_fillLayer 61 = .ok (.bipush 12, 2) := by decide +kernel
theorem d_Sl_fillLayer_63 : decode b_Sl_fillLayer 63 = .ok (.imul, 1) := by decide +kernel
theorem d_Sl_fillLayer_64 : decode b_Sl_fillLayer 64 = .ok (.iload_n 3, 1) := by decide +kernel
theorem d_Sl_fillLayer_65 : decode b_Sl_fillLayer 65 = .ok (.iadd, 1) := by decide +kernel
theorem d_Sl_fillLayer_66 : decode b_Sl_fillLayer 66 = .ok (.dup2, 1) := by decide +kernel
theorem d_Sl_fillLayer_67 : decode b_Sl_fillLayer 67 = .ok (.iaload, 1) := by decide +kernel
theorem d_Sl_fillLayer_68 : decode b_Sl_fillLayer 68 = .ok (.aload_n 0, 1) := by decide +kernel
theorem d_Sl_fillLayer_69 : decode b_Sl_fillLayer 69 = .ok (.iload_n 3, 1) := by decide +kernel
theorem d_Sl_fillLayer_70 : decode b_Sl_fillLayer 70 = .ok (.invokevirtual 85, 3) := by decide +kernel
theorem d_Sl_fillLayer_73 : decode b_Sl_fillLayer 73 = .ok (.ixor, 1) := by decide +kernel
theorem d_Sl_fillLayer_74 : decode b_Sl_fillLayer 74 = .ok (.iastore, 1) := by decide +kernel
theorem d_Sl_fillLayer_75 : decode b_Sl_fillLayer 75 = .ok (.iinc 3 1, 3) := by decide +kernel
theorem d_Sl_fillLayer_78 : decode b_Sl_fillLayer 78 = .ok (.goto (-28), 3) := by decide +kernel
theorem d_Sl_fillLayer_81 : decode b_Sl_fillLayer 81 = .ok (.iinc 2 1, 3) := by decide +kernel
theorem d_Sl_fillLayer_84 : decode b_Sl_fillLayer 84 = .ok (.goto (-56), 3) := by decide +kernel
theorem d_Sl_fillLayer_87 : decode b_Sl_fillLayer 87 = .ok (.return_, 1) := by decide +kernel
theorem d_Sl_cutAnew_0 : decode b_Sl_cutAnew 0 = .ok (.aload_n 0, 1) := by decide +kernel
theorem d_Sl_cutAnew_1 : decode b_Sl_cutAnew 1 = .ok (.getfield 18, 3) := by decide +kernel
theorem d_Sl_cutAnew_4 : decode b_Sl_cutAnew 4 = .ok (.aload_n 1, 1) := by decide +kernel
theorem d_Sl_cutAnew_5 : decode b_Sl_cutAnew 5 = .ok (.invokevirtual 25, 3) := by decide +kernel
theorem d_Sl_cutAnew_8 : decode b_Sl_cutAnew 8 = .ok (.aload_n 0, 1) := by decide +kernel
theorem d_Sl_cutAnew_9 : decode b_Sl_cutAnew 9 = .ok (.iload_n 2, 1) := by decide +kernel
theorem d_Sl_cutAnew_10 : decode b_Sl_cutAnew 10 = .ok (.putfield 29, 3) := by decide +kernel
theorem d_Sl_cutAnew_13 : decode b_Sl_cutAnew 13 = .ok (.iconst 2, 1) := by decide +kernel
theorem d_Sl_cutAnew_14 : decode b_Sl_cutAnew 14 = .ok (.aload_n 0, 1) := by decide +kernel
theorem d_Sl_cutAnew_15 : decode b_Sl_cutAnew 15 = .ok (.getfield 18, 3) := by decide +kernel
theorem d_Sl_cutAnew_18 : decode b_Sl_cutAnew 18 = .ok (.invokevirtual 33, 3) := by decide +kernel
theorem d_Sl_cutAnew_21 : decode b_Sl_cutAnew 21 = .ok (.imul, 1) := by decide +kernel
theorem d_Sl_cutAnew_22 : decode b_Sl_cutAnew 22 = .ok (.istore_n 3, 1) := by decide +kernel
theorem d_Sl_cutAnew_23 : decode b_Sl_cutAnew 23 = .ok (.aload_n 0, 1) := by decide +kernel
theorem d_Sl_cutAnew_24 : decode b_Sl_cutAnew 24 = .ok (.iconst 0, 1) := by decide +kernel
theorem d_Sl_cutAnew_25 : decode b_Sl_cutAnew 25 = .ok (.putfield 37, 3) := by decide +kernel
theorem d_Sl_cutAnew_28 : decode b_Sl_cutAnew 28 = .ok (.iconst 0, 1) := by decide +kernel
theorem d_Sl_cutAnew_29 : decode b_Sl_cutAnew 29 = .ok (.istore 4, 2) := by decide +kernel
theorem d_Sl_cutAnew_31 : decode b_Sl_cutAnew 31 = .ok (.iload 4, 2) := by decide +kernel
theorem d_Sl_cutAnew_33 : decode b_Sl_cutAnew 33 = .ok (.bipush 24, 2) := by decide +kernel
theorem d_Sl_cutAnew_35 : decode b_Sl_cutAnew 35 = .ok (.if_icmp .ge 35, 3) := by decide +kernel
theorem d_Sl_cutAnew_38 : decode b_Sl_cutAnew 38 = .ok (.aload_n 0, 1) := by decide +kernel
theorem d_Sl_cutAnew_39 : decode b_Sl_cutAnew 39 = .ok (.iload 4, 2) := by decide +kernel
theorem d_Sl_cutAnew_41 : decode b_Sl_cutAnew 41 = .ok (.invokevirtual 40, 3) := by decide +kernel
theorem d_Sl_cutAnew_44 : decode b_Sl_cutAnew 44 = .ok (.iload_n 3, 1) := by decide +kernel
theorem d_Sl_cutAnew_45 : decode b_Sl_cutAnew 45 = .ok (.if_icmp .ge 25, 3) := by decide +kernel
theorem d_Sl_cutAnew_48 : decode b_Sl_cutAnew 48 = .ok (.aload_n 0, 1) := by decide +kernel
theorem d_Sl_cutAnew_49 : decode b_Sl_cutAnew 49 = .ok (.dup, 1) := by decide +kernel
theorem d_Sl_cutAnew_50 : decode b_Sl_cutAnew 50 = .ok (.getfield 37, 3) := by decide +kernel
theorem d_Sl_cutAnew_53 : decode b_Sl_cutAnew 53 = .ok (.iconst 1, 1) := by decide +kernel
theorem d_Sl_cutAnew_54 : decode b_Sl_cutAnew 54 = .ok (.iadd, 1) := by decide +kernel
theorem d_Sl_cutAnew_55 : decode b_Sl_cutAnew 55 = .ok (.putfield 37, 3) := by decide +kernel
theorem d_Sl_cutAnew_58 : decode b_Sl_cutAnew 58 = .ok (.aload_n 0, 1) := by decide +kernel
theorem d_Sl_cutAnew_59 : decode b_Sl_cutAnew 59 = .ok (.iload 4, 2) := by decide +kernel
theorem d_Sl_cutAnew_61 : decode b_Sl_cutAnew 61 = .ok (.invokevirtual 44, 3) := by decide +kernel
theorem d_Sl_cutAnew_64 : decode b_Sl_cutAnew 64 = .ok (.iinc 4 1, 3) := by decide +kernel
theorem d_Sl_cutAnew_67 : decode b_Sl_cutAnew 67 = .ok (.goto (-36), 3) := by decide +kernel
theorem d_Sl_cutAnew_70 : decode b_Sl_cutAnew 70 = .ok (.return_, 1) := by decide +kernel
