theorem d_Mo_end_0 : decode b_Mo_end 0 = .ok (.aload_n 0, 1) := by decide +kernel
theorem d_Mo_end_1 : decode b_Mo_end 1 = .ok (.iload_n 1, 1) := by decide +kernel
theorem d_Mo_end_2 : decode b_Mo_end 2 = .ok (.iload_n 2, 1) := by decide +kernel
theorem d_Mo_end_3 : decode b_Mo_end 3 = .ok (.iload_n 3, 1) := by decide +kernel
theorem d_Mo_end_4 : decode b_Mo_end 4 = .ok (.invokevirtual 135, 3) := by decide +kernel
theorem d_Mo_end_7 : decode b_Mo_end 7 = .ok (.istore 5, 2) := by decide +kernel
theorem d_Mo_end_9 : decode b_Mo_end 9 = .ok (.iconst 3, 1) := by decide +kernel
theorem d_Mo_end_10 : decode b_Mo_end 10 = .ok (.iload_n 2, 1) := by decide +kernel
theorem d_Mo_end_11 : decode b_Mo_end 11 = .ok (.imul, 1) := by decide +kernel
theorem d_Mo_end_12 : decode b_Mo_end 12 = .ok (.iload 5, 2) := by decide +kernel
theorem d_Mo_end_14 : decode b_Mo_end 14 = .ok (.iadd, 1) := by decide +kernel
theorem d_Mo_end_15 : decode b_Mo_end 15 = .ok (.istore 6, 2) := by decide +kernel
theorem d_Mo_end_17 : decode b_Mo_end 17 = .ok (.iconst 3, 1) := by decide +kernel
theorem d_Mo_end_18 : decode b_Mo_end 18 = .ok (.iload_n 2, 1) := by decide +kernel
theorem d_Mo_end_19 : decode b_Mo_end 19 = .ok (.imul, 1) := by decide +kernel
theorem d_Mo_end_20 : decode b_Mo_end 20 = .ok (.iload 5, 2) := by decide +kernel
theorem d_Mo_end_22 : decode b_Mo_end 22 = .ok (.iconst 1, 1) := by decide +kernel
theorem d_Mo_end_23 : decode b_Mo_end 23 = .ok (.iadd, 1) := by decide +kernel
theorem d_Mo_end_24 : decode b_Mo_end 24 = .ok (.iconst 3, 1) := by decide +kernel
theorem d_Mo_end_25 : decode b_Mo_end 25 = .ok (.irem, 1) := by decide +kernel
theorem d_Mo_end_26 : decode b_Mo_end 26 = .ok (.iadd, 1) := by decide +kernel
theorem d_Mo_end_27 : decode b_Mo_end 27 = .ok (.istore 7, 2) := by decide +kernel
theorem d_Mo_end_29 : decode b_Mo_end 29 = .ok (.aload_n 0, 1) := by decide +kernel
theorem d_Mo_end_30 : decode b_Mo_end 30 = .ok (.iload 6, 2) := by decide +kernel
theorem d_Mo_end_32 : decode b_Mo_end 32 = .ok (.iload_n 1, 1) := by decide +kernel
theorem d_Mo_end_33 : decode b_Mo_end 33 = .ok (.invokevirtual 131, 3) := by decide +kernel
theorem d_Mo_end_36 : decode b_Mo_end 36 = .ok (.ifCond .eq 15, 3) := by decide +kernel
theorem d_Mo_end_39 : decode b_Mo_end 39 = .ok (.iload 6, 2) := by decide +kernel
theorem d_Mo_end_41 : decode b_Mo_end 41 = .ok (.istore 8, 2) := by decide +kernel
theorem d_Mo_end_43 : decode b_Mo_end 43 = .ok (.iload 7, 2) := by decide +kernel
theorem d_Mo_end_45 : decode b_Mo_end 45 = .ok (.istore 6, 2) := by decide +kernel
theorem d_Mo_end_47 : decode b_Mo_end 47 = .ok (.iload 8, 2) := by decide +kernel
theorem d_Mo_end_49 : decode b_Mo_end 49 = .ok (.istore 7, 2) := by decide +kernel
theorem d_Mo_end_51 : decode b_Mo_end 51 = .ok (.iconst 2, 1) := by decide +kernel
theorem d_Mo_end_52 : decode b_Mo_end 52 = .ok (.aload_n 0, 1) := by decide +kernel
theorem d_Mo_end_53 : decode b_Mo_end 53 = .ok (.getfield 28, 3) := by decide +kernel
theorem d_Mo_end_56 : decode b_Mo_end 56 = .ok (.iload 7, 2) := by decide +kernel
theorem d_Mo_end_58 : decode b_Mo_end 58 = .ok (.iaload, 1) := by decide +kernel
theorem d_Mo_end_59 : decode b_Mo_end 59 = .ok (.aload_n 0, 1) := by decide +kernel
theorem d_Mo_end_60 : decode b_Mo_end 60 = .ok (.getfield 28, 3) := by decide +kernel
theorem d_Mo_end_63 : decode b_Mo_end 63 = .ok (.iload 6, 2) := by decide +kernel
theorem d_Mo_end_65 : decode b_Mo_end 65 = .ok (.iaload, 1) := by decide +kernel
theorem d_Mo_end_66 : decode b_Mo_end 66 = .ok (.isub, 1) := by decide +kernel
theorem d_Mo_end_67 : decode b_Mo_end 67 = .ok (.imul, 1) := by decide +kernel
theorem d_Mo_end_68 : decode b_Mo_end 68 = .ok (.istore 8, 2) := by decide +kernel
theorem d_Mo_end_70 : decode b_Mo_end 70 = .ok (.aload_n 0, 1) := by decide +kernel
theorem d_Mo_end_71 : decode b_Mo_end 71 = .ok (.iload_n 1, 1) := by decide +kernel
theorem d_Mo_end_72 : decode b_Mo_end 72 = .ok (.invokevirtual 119, 3) := by decide +kernel
theorem d_Mo_end_75 : decode b_Mo_end 75 = .ok (.iconst 2, 1) := by decide +kernel
theorem d_Mo_end_76 : decode b_Mo_end 76 = .ok (.aload_n 0, 1) := by decide +kernel
theorem d_Mo_end_77 : decode b_Mo_end 77 = .ok (.getfield 28, 3) := by decide +kernel
theorem d_Mo_end_80 : decode b_Mo_end 80 = .ok (.iload 6, 2) := by decide +kernel
theorem d_Mo_end_82 : decode b_Mo_end 82 = .ok (.iaload, 1) := by decide +kernel
theorem d_Mo_end_83 : decode b_Mo_end 83 = .ok (.imul, 1) := by decide +kernel
theorem d_Mo_end_84 : decode b_Mo_end 84 = .ok (.isub, 1) := by decide +kernel
theorem d_Mo_end_85 : decode b_Mo_end 85 = .ok (.istore 9, 2) := by decide +kernel
theorem d_Mo_end_87 : decode b_Mo_end 87 = .ok (.iload 4, 2) := by decide +kernel
theorem d_Mo_end_89 : decode b_Mo_end 89 = .ok (.ifCond .ne 8, 3) := by decide +kernel
theorem d_Mo_end_92 : decode b_Mo_end 92 = .ok (.iload 8, 2) := by decide +kernel
theorem d_Mo_end_94 : decode b_Mo_end 94 = .ok (.goto 70, 3) := by decide +kernel
theorem d_Mo_end_97 : decode b_Mo_end 97 = .ok (.iload 4, 2) := by decide +kernel
theorem d_Mo_end_99 : decode b_Mo_end 99 = .ok (.iconst 1, 1) := by decide +kernel
theorem d_Mo_end_100 : decode b_Mo_end 100 = .ok (.if_icmp .ne 35, 3) := by decide +kernel
theorem d_Mo_end_103 : decode b_Mo_end 103 = .ok (.aload_n 0, 1) := by decide +kernel
theorem d_Mo_end_104 : decode b_Mo_end 104 = .ok (.getfield 22, 3) := by decide +kernel
theorem d_Mo_end_107 : decode b_Mo_end 107 = .ok (.iload 6, 2) := by decide +kernel
theorem d_Mo_end_109 : decode b_Mo_end 109 = .ok (.iaload, 1) := by decide +kernel
theorem d_Mo_end_110 : decode b_Mo_end 110 = .ok (.iload 8, 2) := by decide +kernel
theorem d_Mo_end_112 : decode b_Mo_end 112 = .ok (.imul, 1) := by decide +kernel
theorem d_Mo_end_113 : decode b_Mo_end 113 = .ok (.aload_n 0, 1) := by decide +kernel
theorem d_Mo_end_114 : decode b_Mo_end 114 = .ok (.getfield 22, 3) := by decide +kernel
theorem d_Mo_end_117 : decode b_Mo_end 117 = .ok (.iload 7, 2) := by decide +kernel
theorem d_Mo_end_119 : decode b_Mo_end 119 = .ok (.iaload, 1) := by decide +kernel
theorem d_Mo_end_120 : decode b_Mo_end 120 = .ok (.aload_n 0, 1) := by decide +kernel
theorem d_Mo_end_121 : decode b_Mo_end 121 = .ok (.getfield 22, 3) := by decide +kernel
theorem d_Mo_end_124 : decode b_Mo_end 124 = .ok (.iload 6, 2) := by decide +kernel
theorem d_Mo_end_126 : decode b_Mo_end 126 = .ok (.iaload, 1) := by decide +kernel
theorem d_Mo_end_127 : decode b_Mo_end 127 = .ok (.isub, 1) := by decide +kernel
theorem d_Mo_end_128 : decode b_Mo_end 128 = .ok (.iload 9, 2) := by decide +kernel
theorem d_Mo_end_130 : decode b_Mo_end 130 = .ok (.imul, 1) := by decide +kernel
theorem d_Mo_end_131 : decode b_Mo_end 131 = .ok (.iadd, 1) := by decide +kernel
theorem d_Mo_end_132 : decode b_Mo_end 132 = .ok (.goto 32, 3) := by decide +kernel
theorem d_Mo_end_135 : decode b_Mo_end 135 = .ok (.aload_n 0, 1) := by decide +kernel
theorem d_Mo_end_136 : decode b_Mo_end 136 = .ok (.getfield 25, 3) := by decide +kernel
theorem d_Mo_end_139 : decode b_Mo_end 139 = .ok (.iload 6, 2) := by decide +kernel
theorem d_Mo_end_141 : decode b_Mo_end 141 = .ok (.iaload, 1) := by decide +kernel
theorem d_Mo_end_142 : decode b_Mo_end 142 = .ok (.iload 8, 2) := by decide +kernel
theorem d_Mo_end_144 : decode b_Mo_end 144 = .ok (.imul, 1) := by decide +kernel
theorem d_Mo_end_145 : decode b_Mo_end 145 = .ok (.aload_n 0, 1) := by decide +kernel
theorem d_Mo_end_146 : decode b_Mo_end 146 = .ok (.getfield 25, 3) := by decide +kernel
theorem d_Mo_end_149 : decode b_Mo_end 149 = .ok (.iload 7, 2) := by decide +kernel
theorem d_Mo_end_151 : decode b_Mo_end 151 = .ok (.iaload, 1) := by decide +kernel
theorem d_Mo_end_152 : decode b_Mo_end 152 = .ok (.aload_n 0, 1) := by decide +kernel
theorem d_Mo_end_153 : decode b_Mo_end 153 = .ok (.getfield 25, 3) := by decide +kernel
theorem d_Mo_end_156 : decode b_Mo_end 156 = .ok (.iload 6, 2) := by decide +kernel
theorem d_Mo_end_158 : decode b_Mo_end 158 = .ok (.iaload, 1) := by decide +kernel
theorem d_Mo_end_159 : decode b_Mo_end 159 = .ok (.isub, 1) := by decide +kernel
theorem d_Mo_end_160 : decode b_Mo_end 160 = .ok (.iload 9, 2) := by decide +kernel
theorem d_Mo_end_162 : decode b_Mo_end 162 = .ok (.imul, 1) := by decide +kernel
theorem d_Mo_end_163 : decode b_Mo_end 163 = .ok (.iadd, 1) := by decide +kernel
theorem d_Mo_end_164 : decode b_Mo_end 164 = .ok (.ireturn, 1) := by decide +kernel
theorem d_Mo_isLeft_0 : decode b_Mo_isLeft 0 = .ok (.aload_n 0, 1) := by decide +kernel
theorem d_Mo_isLeft_1 : decode b_Mo_isLeft 1 = .ok (.iload_n 1, 1) := by decide +kernel
theorem d_Mo_isLeft_2 : decode b_Mo_isLeft 2 = .ok (.iload_n 2, 1) := by decide +kernel
theorem d_Mo_isLeft_3 : decode b_Mo_isLeft 3 = .ok (.iconst 0, 1) := by decide +kernel
theorem d_Mo_isLeft_4 : decode b_Mo_isLeft 4 = .ok (.iconst 0, 1) := by decide +kernel
theorem d_Mo_isLeft_5 : decode b_Mo_isLeft 5 = .ok (.invokevirtual 141, 3) := by decide +kernel
theorem d_Mo_isLeft_8 : decode b_Mo_isLeft 8 = .ok (.i2l, 1) := by decide +kernel
theorem d_Mo_isLeft_9 : decode b_Mo_isLeft 9 = .ok (.lstore 5, 2) := by decide +kernel
theorem d_Mo_isLeft_11 : decode b_Mo_isLeft 11 = .ok (.aload_n 0, 1) := by decide +kernel
theorem d_Mo_isLeft_12 : decode b_Mo_isLeft 12 = .ok (.iload_n 1, 1) := by decide +kernel
theorem d_Mo_isLeft_13 : decode b_Mo_isLeft 13 = .ok (.iload_n 2, 1) := by decide +kernel
theorem d_Mo_isLeft_14 : decode b_Mo_isLeft 14 = .ok (.iconst 0, 1) := by decide +kernel
theorem d_Mo_isLeft_15 : decode b_Mo_isLeft 15 = .ok (.iconst 1, 1) := by decide +kernel
theorem d_Mo_isLeft_16 : decode b_Mo_isLeft 16 = .ok (.invokevirtual 141, 3) := by decide +kernel
theorem d_Mo_isLeft_19 : decode b_Mo_isLeft 19 = .ok (.i2l, 1) := by decide +kernel
theorem d_Mo_isLeft_20 : decode b_Mo_isLeft 20 = .ok (.lstore 7, 2) := by decide +kernel
theorem d_Mo_isLeft_22 : decode b_Mo_isLeft 22 = .ok (.aload_n 0, 1) := by decide +kernel
theorem d_Mo_isLeft_23 : decode b_Mo_isLeft 23 = .ok (.iload_n 1, 1) := by decide +kernel
theorem d_Mo_isLeft_24 : decode b_Mo_isLeft 24 = .ok (.iload_n 2, 1) := by decide +kernel
theorem d_Mo_isLeft_25 : decode b_Mo_isLeft 25 = .ok (.iconst 0, 1) := by decide +kernel
theorem d_Mo_isLeft_26 : decode b_Mo_isLeft 26 = .ok (.iconst 2, 1) := by decide +kernel
theorem d_Mo_isLeft_27 : decode b_Mo_isLeft 27 = .ok (.invokevirtual 141, 3) := by decide +kernel
theorem d_Mo_isLeft_30 : decode b_Mo_isLeft 30 = .ok (.i2l, 1) := by decide +kernel
theorem d_Mo_isLeft_31 : decode b_Mo_isLeft 31 = .ok (.lstore 9, 2) := by decide +kernel
theorem d_Mo_isLeft_33 : decode b_Mo_isLeft 33 = .ok (.aload_n 0, 1) := by decide +kernel
theorem d_Mo_isLeft_34 : decode b_Mo_isLeft 34 = .ok (.iload_n 1, 1) := by decide +kernel
theorem d_Mo_isLeft_35 : decode b_Mo_isLeft 35 = .ok (.iload_n 2, 1) := by decide +kernel
theorem d_Mo_isLeft_36 : decode b_Mo_isLeft 36 = .ok (.iconst 1, 1) := by decide +kernel
theorem d_Mo_isLeft_37 : decode b_Mo_isLeft 37 = .ok (.iconst 0, 1) := by decide +kernel
theorem d_Mo_isLeft_38 : decode b_Mo_isLeft 38 = .ok (.invokevirtual 141, 3) := by decide +kernel
theorem d_Mo_isLeft_41 : decode b_Mo_isLeft 41 = .ok (.i2l, 1) := by decide +kernel
theorem d_Mo_isLeft_42 : decode b_Mo_isLeft 42 = .ok (.lstore 11, 2) := by decide +kernel
theorem d_Mo_isLeft_44 : decode b_Mo_isLeft 44 = .ok (.aload_n 0, 1) := by decide +kernel
theorem d_Mo_isLeft_45 : decode b_Mo_isLeft 45 = .ok (.iload_n 1, 1) := by decide +kernel
theorem d_Mo_isLeft_46 : decode b_Mo_isLeft 46 = .ok (.iload_n 2, 1) := by decide +kernel
theorem d_Mo_isLeft_47 : decode b_Mo_isLeft 47 = .ok (.iconst 1, 1) := by decide +kernel
theorem d_Mo_isLeft_48 : decode b_Mo_isLeft 48 = .ok (.iconst 1, 1) := by decide +kernel
theorem d_Mo_isLeft_49 : decode b_Mo_isLeft 49 = .ok (.invokevirtual 141, 3) := by decide +kernel
theorem d_Mo_isLeft_52 : decode b_Mo_isLeft 52 = .ok (.i2l, 1) := by decide +kernel
theorem d_Mo_isLeft_53 : decode b_Mo_isLeft 53 = .ok (.lstore 13, 2) := by decide +kernel
theorem d_Mo_isLeft_55 : decode b_Mo_isLeft 55 = .ok (.aload_n 0, 1) := by decide +kernel
theorem d_Mo_isLeft_56 : decode b_Mo_isLeft 56 = .ok (.iload_n 1, 1) := by decide +kernel
theorem d_Mo_isLeft_57 : decode b_Mo_isLeft 57 = .ok (.iload_n 2, 1) := by decide +kernel
theorem d_Mo_isLeft_58 : decode b_Mo_isLeft 58 = .ok (.iconst 1, 1) := by decide +kernel
theorem d_Mo_isLeft_59 : decode b_Mo_isLeft 59 = .ok (.iconst 2, 1) := by decide +kernel
theorem d_Mo_isLeft_60 : decode b_Mo_isLeft 60 = .ok (.invokevirtual 141, 3) := by decide +kernel
theorem d_Mo_isLeft_63 : decode b_Mo_isLeft 63 = .ok (.i2l, 1) := by decide +kernel
theorem d_Mo_isLeft_64 : decode b_Mo_isLeft 64 = .ok (.lstore 15, 2) := by decide +kernel
theorem d_Mo_isLeft_66 : decode b_Mo_isLeft 66 = .ok (.ldc2_w 145, 3) := by decide +kernel
theorem d_Mo_isLeft_69 : decode b_Mo_isLeft 69 = .ok (.iload 4, 2) := by decide +kernel
theorem d_Mo_isLeft_71 : decode b_Mo_isLeft 71 = .ok (.i2l, 1) := by decide +kernel
theorem d_Mo_isLeft_72 : decode b_Mo_isLeft 72 = .ok (.lmul, 1) := by decide +kernel
theorem d_Mo_isLeft_73 : decode b_Mo_isLeft 73 = .ok (.ldc2_w 147, 3) := by decide +kernel
theorem d_Mo_isLeft_76 : decode b_Mo_isLeft 76 = .ok (.ladd, 1) := by decide +kernel
theorem d_Mo_isLeft_77 : decode b_Mo_isLeft 77 = .ok (.lstore 17, 2) := by decide +kernel
theorem d_Mo_isLeft_79 : decode b_Mo_isLeft 79 = .ok (.ldc2_w 145, 3) := by decide +kernel
theorem d_Mo_isLeft_82 : decode b_Mo_isLeft 82 = .ok (.iload_n 3, 1) := by decide +kernel
theorem d_Mo_isLeft_83 : decode b_Mo_isLeft 83 = .ok (.i2l, 1) := by decide +kernel
theorem d_Mo_isLeft_84 : decode b_Mo_isLeft 84 = .ok (.lmul, 1) := by decide +kernel
theorem d_Mo_isLeft_85 : decode b_Mo_isLeft 85 = .ok (.ldc2_w 147, 3) := by decide +kernel
theorem d_Mo_isLeft_88 : decode b_Mo_isLeft 88 = .ok (.ladd, 1) := by decide +kernel
theorem d_Mo_isLeft_89 : decode b_Mo_isLeft 89 = .ok (.lstore 19, 2) := by decide +kernel
theorem d_Mo_isLeft_91 : decode b_Mo_isLeft 91 = .ok (.ldc2_w 149, 3) := by decide +kernel
theorem d_Mo_isLeft_94 : decode b_Mo_isLeft 94 = .ok (.lload 9, 2) := by decide +kernel
theorem d_Mo_isLeft_96 : decode b_Mo_isLeft 96 = .ok (.lmul, 1) := by decide +kernel
theorem d_Mo_isLeft_97 : decode b_Mo_isLeft 97 = .ok (.lload 17, 2) := by decide +kernel
theorem d_Mo_isLeft_99 : decode b_Mo_isLeft 99 = .ok (.lload 5, 2) := by decide +kernel
theorem d_Mo_isLeft_101 : decode b_Mo_isLeft 101 = .ok (.lmul, 1) := by decide +kernel
theorem d_Mo_isLeft_102 : decode b_Mo_isLeft 102 = .ok (.lcmp, 1) := by decide +kernel
theorem d_Mo_isLeft_103 : decode b_Mo_isLeft 103 = .ok (.ifCond .gt 7, 3) := by decide +kernel
theorem d_Mo_isLeft_106 : decode b_Mo_isLeft 106 = .ok (.iconst 1, 1) := by decide +kernel
theorem d_Mo_isLeft_107 : decode b_Mo_isLeft 107 = .ok (.goto 4, 3) := by decide +kernel
theorem d_Mo_isLeft_110 : decode b_Mo_isLeft 110 = .ok (.iconst 0, 1) := by decide +kernel
theorem d_Mo_isLeft_111 : decode b_Mo_isLeft 111 = .ok (.istore 21, 2) := by decide +kernel
theorem d_Mo_isLeft_113 : decode b_Mo_isLeft 113 = .ok (.ldc2_w 149, 3) := by decide +kernel
theorem d_Mo_isLeft_116 : decode b_Mo_isLeft 116 = .ok (.lload 15, 2) := by decide +kernel
theorem d_Mo_isLeft_118 : decode b_Mo_isLeft 118 = .ok (.lmul, 1) := by decide +kernel
theorem d_Mo_isLeft_119 : decode b_Mo_isLeft 119 = .ok (.lload 17, 2) := by decide +kernel
theorem d_Mo_isLeft_121 : decode b_Mo_isLeft 121 = .ok (.lload 11, 2) := by decide +kernel
theorem d_Mo_isLeft_123 : decode b_Mo_isLeft 123 = .ok (.lmul, 1) := by decide +kernel
theorem d_Mo_isLeft_124 : decode b_Mo_isLeft 124 = .ok (.lcmp, 1) := by decide +kernel
theorem d_Mo_isLeft_125 : decode b_Mo_isLeft 125 = .ok (.ifCond .gt 7, 3) := by decide +kernel
theorem d_Mo_isLeft_128 : decode b_Mo_isLeft 128 = .ok (.iconst 1, 1) := by decide +kernel
theorem d_Mo_isLeft_129 : decode b_Mo_isLeft 129 = .ok (.goto 4, 3) := by decide +kernel
theorem d_Mo_isLeft_132 : decode b_Mo_isLeft 132 = .ok (.iconst 0, 1) := by decide +kernel
theorem d_Mo_isLeft_133 : decode b_Mo_isLeft 133 = .ok (.istore 22, 2) := by decide +kernel
theorem d_Mo_isLeft_135 : decode b_Mo_isLeft 135 = .ok (.iload 21, 2) := by decide +kernel
theorem d_Mo_isLeft_137 : decode b_Mo_isLeft 137 = .ok (.iload 22, 2) := by decide +kernel
theorem d_Mo_isLeft_139 : decode b_Mo_isLeft 139 = .ok (.if_icmp .ne 5, 3) := by decide +kernel
theorem d_Mo_isLeft_142 : decode b_Mo_isLeft 142 = .ok (.iconst 0, 1) := by decide +kernel
theorem d_Mo_isLeft_143 : decode b_Mo_isLeft 143 = .ok (.ireturn, 1) := by decide +kernel
theorem d_Mo_isLeft_144 : decode b_Mo_isLeft 144 = .ok (.lload 13, 2) := by decide +kernel
theorem d_Mo_isLeft_146 : decode b_Mo_isLeft 146 = .ok (.lload 5, 2) := by decide +kernel
theorem d_Mo_isLeft_148 : decode b_Mo_isLeft 148 = .ok (.lmul, 1) := by decide +kernel
theorem d_Mo_isLeft_149 : decode b_Mo_isLeft 149 = .ok (.lload 7, 2) := by decide +kernel
theorem d_Mo_isLeft_151 : decode b_Mo_isLeft 151 = .ok (.lload 11, 2) := by decide +kernel
theorem d_Mo_isLeft_153 : decode b_Mo_isLeft 153 = .ok (.lmul, 1) := by decide +kernel
theorem d_Mo_isLeft_154 : decode b_Mo_isLeft 154 = .ok (.lsub, 1) := by decide +kernel
theorem d_Mo_isLeft_155 : decode b_Mo_isLeft 155 = .ok (.lload 17, 2) := by decide +kernel
theorem d_Mo_isLeft_157 : decode b_Mo_isLeft 157 = .ok (.lload 5, 2) := by decide +kernel
theorem d_Mo_isLeft_159 : decode b_Mo_isLeft 159 = .ok (.lmul, 1) := by decide +kernel
theorem d_Mo_isLeft_160 : decode b_Mo_isLeft 160 = .ok (.ldc2_w 149, 3) := by decide +kernel
theorem d_Mo_isLeft_163 : decode b_Mo_isLeft 163 = .ok (.lload 9, 2) := by decide +kernel
theorem d_Mo_isLeft_165 : decode b_Mo_isLeft 165 = .ok (.lmul, 1) := by decide +kernel
theorem d_Mo_isLeft_166 : decode b_Mo_isLeft 166 = .ok (.lsub, 1) := by decide +kernel
theorem d_Mo_isLeft_167 : decode b_Mo_isLeft 167 = .ok (.lmul, 1) := by decide +kernel
theorem d_Mo_isLeft_168 : decode b_Mo_isLeft 168 = .ok (.lload 15, 2) := by decide +kernel
theorem d_Mo_isLeft_170 : decode b_Mo_isLeft 170 = .ok (.lload 5, 2) := by decide +kernel
theorem d_Mo_isLeft_172 : decode b_Mo_isLeft 172 = .ok (.lmul, 1) := by decide +kernel
theorem d_Mo_isLeft_173 : decode b_Mo_isLeft 173 = .ok (.lload 9, 2) := by decide +kernel
theorem d_Mo_isLeft_175 : decode b_Mo_isLeft 175 = .ok (.lload 11, 2) := by decide +kernel
theorem d_Mo_isLeft_177 : decode b_Mo_isLeft 177 = .ok (.lmul, 1) := by decide +kernel
theorem d_Mo_isLeft_178 : decode b_Mo_isLeft 178 = .ok (.lsub, 1) := by decide +kernel
theorem d_Mo_isLeft_179 : decode b_Mo_isLeft 179 = .ok (.lload 19, 2) := by decide +kernel
theorem d_Mo_isLeft_181 : decode b_Mo_isLeft 181 = .ok (.lload 5, 2) := by decide +kernel
theorem d_Mo_isLeft_183 : decode b_Mo_isLeft 183 = .ok (.lmul, 1) := by decide +kernel
theorem d_Mo_isLeft_184 : decode b_Mo_isLeft 184 = .ok (.ldc2_w 149, 3) := by decide +kernel
theorem d_Mo_isLeft_187 : decode b_Mo_isLeft 187 = .ok (.lload 7, 2) := by decide +kernel
theorem d_Mo_isLeft_189 : decode b_Mo_isLeft 189 = .ok (.lmul, 1) := by decide +kernel
theorem d_Mo_isLeft_190 : decode b_Mo_isLeft 190 = .ok (.lsub, 1) := by decide +kernel
theorem d_Mo_isLeft_191 : decode b_Mo_isLeft 191 = .ok (.lmul, 1) := by decide +kernel
theorem d_Mo_isLeft_192 : decode b_Mo_isLeft 192 = .ok (.lsub, 1) := by decide +kernel
theorem d_Mo_isLeft_193 : decode b_Mo_isLeft 193 = .ok (.lstore 23, 2) := by decide +kernel
theorem d_Mo_isLeft_195 : decode b_Mo_isLeft 195 = .ok (.iload 21, 2) := by decide +kernel
theorem d_Mo_isLeft_197 : decode b_Mo_isLeft 197 = .ok (.ifCond .eq 18, 3) := by decide +kernel
theorem d_Mo_isLeft_200 : decode b_Mo_isLeft 200 = .ok (.lload 23, 2) := by decide +kernel
theorem d_Mo_isLeft_202 : decode b_Mo_isLeft 202 = .ok (.lconst 0, 1) := by decide +kernel
theorem d_Mo_isLeft_203 : decode b_Mo_isLeft 203 = .ok (.lcmp, 1) := by decide +kernel
theorem d_Mo_isLeft_204 : decode b_Mo_isLeft 204 = .ok (.ifCond .ge 7, 3) := by decide +kernel
theorem d_Mo_isLeft_207 : decode b_Mo_isLeft 207 = .ok (.iconst 1, 1) := by decide +kernel
theorem d_Mo_isLeft_208 : decode b_Mo_isLeft 208 = .ok (.goto 19, 3) := by decide +kernel
theorem d_Mo_isLeft_211 : decode b_Mo_isLeft 211 = .ok (.iconst 0, 1) := by decide +kernel
theorem d_Mo_isLeft_212 : decode b_Mo_isLeft 212 = .ok (.goto 15, 3) := by decide +kernel
theorem d_Mo_isLeft_215 : decode b_Mo_isLeft 215 = .ok (.lload 23, 2) := by decide +kernel
theorem d_Mo_isLeft_217 : decode b_Mo_isLeft 217 = .ok (.lconst 0, 1) := by decide +kernel
theorem d_Mo_isLeft_218 : decode b_Mo_isLeft 218 = .ok (.lcmp, 1) := by decide +kernel
theorem d_Mo_isLeft_219 : decode b_Mo_isLeft 219 = .ok (.ifCond .le 7, 3) := by decide +kernel
theorem d_Mo_isLeft_222 : decode b_Mo_isLeft 222 = .ok (.iconst 1, 1) := by decide +kernel
theorem d_Mo_isLeft_223 : decode b_Mo_isLeft 223 = .ok (.goto 4, 3) := by decide +kernel
theorem d_Mo_isLeft_226 : decode b_Mo_isLeft 226 = .ok (.iconst 0, 1) := by decide +kernel
theorem d_Mo_isLeft_227 : decode b_Mo_isLeft 227 = .ok (.ireturn, 1) := by decide +kernel
theorem d_Mo_isInside_0 : decode b_Mo_isInside 0 = .ok (.iconst 0, 1) := by decide +kernel
theorem d_Mo_isInside_1 : decode b_Mo_isInside 1 = .ok (.istore 4, 2) := by decide +kernel
theorem d_Mo_isInside_3 : decode b_Mo_isInside 3 = .ok (.iconst 0, 1) := by decide +kernel
theorem d_Mo_isInside_4 : decode b_Mo_isInside 4 = .ok (.istore 5, 2) := by decide +kernel
theorem d_Mo_isInside_6 : decode b_Mo_isInside 6 = .ok (.iload 5, 2) := by decide +kernel
theorem d_Mo_isInside_8 : decode b_Mo_isInside 8 = .ok (.aload_n 0, 1) := by decide +kernel
theorem d_Mo_isInside_9 : decode b_Mo_isInside 9 = .ok (.getfield 113, 3) := by decide +kernel
theorem d_Mo_isInside_12 : decode b_Mo_isInside 12 = .ok (.if_icmp .ge 43, 3) := by decide +kernel
theorem d_Mo_isInside_15 : decode b_Mo_isInside 15 = .ok (.aload_n 0, 1) := by decide +kernel
theorem d_Mo_isInside_16 : decode b_Mo_isInside 16 = .ok (.iload_n 1, 1) := by decide +kernel
theorem d_Mo_isInside_17 : decode b_Mo_isInside 17 = .ok (.iload 5, 2) := by decide +kernel
theorem d_Mo_isInside_19 : decode b_Mo_isInside 19 = .ok (.invokevirtual 138, 3) := by decide +kernel
theorem d_Mo_isInside_22 : decode b_Mo_isInside 22 = .ok (.ifCond .eq 27, 3) := by decide +kernel
theorem d_Mo_isInside_25 : decode b_Mo_isInside 25 = .ok (.aload_n 0, 1) := by decide +kernel
theorem d_Mo_isInside_26 : decode b_Mo_isInside 26 = .ok (.iload_n 1, 1) := by decide +kernel
theorem d_Mo_isInside_27 : decode b_Mo_isInside 27 = .ok (.iload 5, 2) := by decide +kernel
theorem d_Mo_isInside_29 : decode b_Mo_isInside 29 = .ok (.iload_n 2, 1) := by decide +kernel
theorem d_Mo_isInside_30 : decode b_Mo_isInside 30 = .ok (.iload_n 3, 1) := by decide +kernel
theorem d_Mo_isInside_31 : decode b_Mo_isInside 31 = .ok (.invokevirtual 151, 3) := by decide +kernel
theorem d_Mo_isInside_34 : decode b_Mo_isInside 34 = .ok (.ifCond .eq 15, 3) := by decide +kernel
theorem d_Mo_isInside_37 : decode b_Mo_isInside 37 = .ok (.iload 4, 2) := by decide +kernel
theorem d_Mo_isInside_39 : decode b_Mo_isInside 39 = .ok (.ifCond .ne 7, 3) := by decide +kernel
theorem d_Mo_isInside_42 : decode b_Mo_isInside 42 = .ok (.iconst 1, 1) := by decide +kernel
theorem d_Mo_isInside_43 : decode b_Mo_isInside 43 = .ok (.goto 4, 3) := by decide +kernel
theorem d_Mo_isInside_46 : decode b_Mo_isInside 46 = .ok (.iconst 0, 1) := by decide +kernel
theorem d_Mo_isInside_47 : decode b_Mo_isInside 47 = .ok (.istore 4, 2) := by decide +kernel
theorem d_Mo_isInside_49 : decode b_Mo_isInside 49 = .ok (.iinc 5 1, 3) := by decide +kernel
theorem d_Mo_isInside_52 : decode b_Mo_isInside 52 = .ok (.goto (-46), 3) := by decide +kernel
theorem d_Mo_isInside_55 : decode b_Mo_isInside 55 = .ok (.iload 4, 2) := by decide +kernel
theorem d_Mo_isInside_57 : decode b_Mo_isInside 57 = .ok (.ireturn, 1) := by decide +kernel
theorem d_Mo_clear_0 : decode b_Mo_clear 0 = .ok (.aload_n 0, 1) := by decide +kernel
theorem d_Mo_clear_1 : decode b_Mo_clear 1 = .ok (.iconst 0, 1) := by decide +kernel
theorem d_Mo_clear_2 : decode b_Mo_clear 2 = .ok (.putfield 182, 3) := by decide +kernel
theorem d_Mo_clear_5 : decode b_Mo_clear 5 = .ok (.aload_n 0, 1) := by decide +kernel
theorem d_Mo_clear_6 : decode b_Mo_clear 6 = .ok (.iconst (-1), 1) := by decide +kernel
theorem d_Mo_clear_7 : decode b_Mo_clear 7 = .ok (.putfield 57, 3) := by decide +kernel
theorem d_Mo_clear_10 : decode b_Mo_clear 10 = .ok (.iconst 0, 1) := by decide +kernel
theorem d_Mo_clear_11 : decode b_Mo_clear 11 = .ok (.istore_n 1, 1) := by decide +kernel
theorem d_Mo_clear_12 : decode b_Mo_clear 12 = .ok (.iload_n 1, 1) := by decide +kernel
theorem d_Mo_clear_13 : decode b_Mo_clear 13 = .ok (.sipush 3456, 3) := by decide +kernel
theorem d_Mo_clear_16 : decode b_Mo_clear 16 = .ok (.if_icmp .ge 16, 3) := by decide +kernel
theorem d_Mo_clear_19 : decode b_Mo_clear 19 = .ok (.aload_n 0, 1) := by decide +kernel
theorem d_Mo_clear_20 : decode b_Mo_clear 20 = .ok (.getfield 38, 3) := by decide +kernel
theorem d_Mo_clear_23 : decode b_Mo_clear 23 = .ok (.iload_n 1, 1) := by decide +kernel
theorem d_Mo_clear_24 : decode b_Mo_clear 24 = .ok (.iconst 0, 1) := by decide +kernel
theorem d_Mo_clear_25 : decode b_Mo_clear 25 = .ok (.iastore, 1) := by decide +kernel
theorem d_Mo_clear_26 : decode b_Mo_clear 26 = .ok (.iinc 1 1, 3) := by decide +kernel
theorem d_Mo_clear_29 : decode b_Mo_clear 29 = .ok (.goto (-17), 3) := by decide +kernel
theorem d_Mo_clear_32 : decode b_Mo_clear 32 = .ok (.return_, 1) := by decide +kernel
theorem d_Mo_layers_0 : decode b_Mo_layers 0 = .ok (.aload_n 0, 1) := by decide +kernel
theorem d_Mo_layers_1 : decode b_Mo_layers 1 = .ok (.iconst 0, 1) := by decide +kernel
theorem d_Mo_layers_2 : decode b_Mo_layers 2 = .ok (.putfield 60, 3) := by decide +kernel
theorem d_Mo_layers_5 : decode b_Mo_layers 5 = .ok (.iload_n 1, 1) := by decide +kernel
theorem d_Mo_layers_6 : decode b_Mo_layers 6 = .ok (.iconst 1, 1) := by decide +kernel
theorem d_Mo_layers_7 : decode b_Mo_layers 7 = .ok (.bipush 41, 2) := by decide +kernel
theorem d_Mo_layers_9 : decode b_Mo_layers 9 = .ok (.invokestatic 66, 3) := by decide +kernel
theorem d_Mo_layers_12 : decode b_Mo_layers 12 = .ok (.ifCond .eq 9, 3) := by decide +kernel
theorem d_Mo_layers_15 : decode b_Mo_layers 15 = .ok (.iload_n 1, 1) := by decide +kernel
theorem d_Mo_layers_16 : decode b_Mo_layers 16 = .ok (.iconst 2, 1) := by decide +kernel
theorem d_Mo_layers_17 : decode b_Mo_layers 17 = .ok (.irem, 1) := by decide +kernel
theorem d_Mo_layers_18 : decode b_Mo_layers 18 = .ok (.ifCond .ne 5, 3) := by decide +kernel
theorem d_Mo_layers_21 : decode b_Mo_layers 21 = .ok (.iconst (-1), 1) := by decide +kernel
theorem d_Mo_layers_22 : decode b_Mo_layers 22 = .ok (.ireturn, 1) := by decide +kernel
theorem d_Mo_layers_23 : decode b_Mo_layers 23 = .ok (.aload_n 0, 1) := by decide +kernel
theorem d_Mo_layers_24 : decode b_Mo_layers 24 = .ok (.iload_n 1, 1) := by decide +kernel
theorem d_Mo_layers_25 : decode b_Mo_layers 25 = .ok (.putfield 110, 3) := by decide +kernel
theorem d_Mo_layers_28 : decode b_Mo_layers 28 = .ok (.aload_n 0, 1) := by decide +kernel
theorem d_Mo_layers_29 : decode b_Mo_layers 29 = .ok (.aload_n 0, 1) := by decide +kernel
theorem d_Mo_layers_30 : decode b_Mo_layers 30 = .ok (.getfield 70, 3) := by decide +kernel
theorem d_Mo_layers_33 : decode b_Mo_layers 33 = .ok (.putfield 113, 3) := by decide +kernel
theorem d_Mo_layers_36 : decode b_Mo_layers 36 = .ok (.iconst 0, 1) := by decide +kernel
theorem d_Mo_layers_37 : decode b_Mo_layers 37 = .ok (.istore_n 2, 1) := by decide +kernel
theorem d_Mo_layers_38 : decode b_Mo_layers 38 = .ok (.iconst 0, 1) := by decide +kernel
theorem d_Mo_layers_39 : decode b_Mo_layers 39 = .ok (.istore_n 3, 1) := by decide +kernel
theorem d_Mo_layers_40 : decode b_Mo_layers 40 = .ok (.iload_n 3, 1) := by decide +kernel
theorem d_Mo_layers_41 : decode b_Mo_layers 41 = .ok (.iconst 3, 1) := by decide +kernel
theorem d_Mo_layers_42 : decode b_Mo_layers 42 = .ok (.aload_n 0, 1) := by decide +kernel
theorem d_Mo_layers_43 : decode b_Mo_layers 43 = .ok (.getfield 70, 3) := by decide +kernel
theorem d_Mo_layers_46 : decode b_Mo_layers 46 = .ok (.imul, 1) := by decide +kernel
theorem d_Mo_layers_47 : decode b_Mo_layers 47 = .ok (.if_icmp .ge 81, 3) := by decide +kernel
theorem d_Mo_layers_50 : decode b_Mo_layers 50 = .ok (.aload_n 0, 1) := by decide +kernel
theorem d_Mo_layers_51 : decode b_Mo_layers 51 = .ok (.getfield 22, 3) := by decide +kernel
theorem d_Mo_layers_54 : decode b_Mo_layers 54 = .ok (.iload_n 3, 1) := by decide +kernel
theorem d_Mo_layers_55 : decode b_Mo_layers 55 = .ok (.aload_n 0, 1) := by decide +kernel
theorem d_Mo_layers_56 : decode b_Mo_layers 56 = .ok (.getfield 7, 3) := by decide +kernel
theorem d_Mo_layers_59 : decode b_Mo_layers 59 = .ok (.aload_n 0, 1) := by decide +kernel
theorem d_Mo_layers_60 : decode b_Mo_layers 60 = .ok (.getfield 19, 3) := by decide +kernel
theorem d_Mo_layers_63 : decode b_Mo_layers 63 = .ok (.iload_n 3, 1) := by decide +kernel
theorem d_Mo_layers_64 : decode b_Mo_layers 64 = .ok (.iaload, 1) := by decide +kernel
theorem d_Mo_layers_65 : decode b_Mo_layers 65 = .ok (.iaload, 1) := by decide +kernel
theorem d_Mo_layers_66 : decode b_Mo_layers 66 = .ok (.iastore, 1) := by decide +kernel
theorem d_Mo_layers_67 : decode b_Mo_layers 67 = .ok (.aload_n 0, 1) := by decide +kernel
theorem d_Mo_layers_68 : decode b_Mo_layers 68 = .ok (.getfield 25, 3) := by decide +kernel
theorem d_Mo_layers_71 : decode b_Mo_layers 71 = .ok (.iload_n 3, 1) := by decide +kernel
theorem d_Mo_layers_72 : decode b_Mo_layers 72 = .ok (.aload_n 0, 1) := by decide +kernel
theorem d_Mo_layers_73 : decode b_Mo_layers 73 = .ok (.getfield 13, 3) := by decide +kernel
theorem d_Mo_layers_76 : decode b_Mo_layers 76 = .ok (.aload_n 0, 1) := by decide +kernel
theorem d_Mo_layers_77 : decode b_Mo_layers 77 = .ok (.getfield 19, 3) := by decide +kernel
theorem d_Mo_layers_80 : decode b_Mo_layers 80 = .ok (.iload_n 3, 1) := by decide +kernel
theorem d_Mo_layers_81 : decode b_Mo_layers 81 = .ok (.iaload, 1) := by decide +kernel
theorem d_Mo_layers_82 : decode b_Mo_layers 82 = .ok (.iaload, 1) := by decide +kernel
theorem d_Mo_layers_83 : decode b_Mo_layers 83 = .ok (.iastore, 1) := by decide +kernel
theorem d_Mo_layers_84 : decode b_Mo_layers 84 = .ok (.aload_n 0, 1) := by decide +kernel
theorem d_Mo_layers_85 : decode b_Mo_layers 85 = .ok (.getfield 28, 3) := by decide +kernel
theorem d_Mo_layers_88 : decode b_Mo_layers 88 = .ok (.iload_n 3, 1) := by decide +kernel
theorem d_Mo_layers_89 : decode b_Mo_layers 89 = .ok (.aload_n 0, 1) := by decide +kernel
theorem d_Mo_layers_90 : decode b_Mo_layers 90 = .ok (.getfield 16, 3) := by decide +kernel
theorem d_Mo_layers_93 : decode b_Mo_layers 93 = .ok (.aload_n 0, 1) := by decide +kernel
theorem d_Mo_layers_94 : decode b_Mo_layers 94 = .ok (.getfield 19, 3) := by decide +kernel
theorem d_Mo_layers_97 : decode b_Mo_layers 97 = .ok (.iload_n 3, 1) := by decide +kernel
theorem d_Mo_layers_98 : decode b_Mo_layers 98 = .ok (.iaload, 1) := by decide +kernel
theorem d_Mo_layers_99 : decode b_Mo_layers 99 = .ok (.iaload, 1) := by decide +kernel
theorem d_Mo_layers_100 : decode b_Mo_layers 100 = .ok (.iastore, 1) := by decide +kernel
theorem d_Mo_layers_101 : decode b_Mo_layers 101 = .ok (.aload_n 0, 1) := by decide +kernel
theorem d_Mo_layers_102 : decode b_Mo_layers 102 = .ok (.getfield 28, 3) := by decide +kernel
theorem d_Mo_layers_105 : decode b_Mo_layers 105 = .ok (.iload_n 3, 1) := by decide +kernel
theorem d_Mo_layers_106 : decode b_Mo_layers 106 = .ok (.iaload, 1) := by decide +kernel
theorem d_Mo_layers_107 : decode b_Mo_layers 107 = .ok (.iload_n 2, 1) := by decide +kernel
theorem d_Mo_layers_108 : decode b_Mo_layers 108 = .ok (.if_icmp .le 12, 3) := by decide +kernel
theorem d_Mo_layers_111 : decode b_Mo_layers 111 = .ok (.aload_n 0, 1) := by decide +kernel
theorem d_Mo_layers_112 : decode b_Mo_layers 112 = .ok (.getfield 28, 3) := by decide +kernel
theorem d_Mo_layers_115 : decode b_Mo_layers 115 = .ok (.iload_n 3, 1) := by decide +kernel
theorem d_Mo_layers_116 : decode b_Mo_layers 116 = .ok (.iaload, 1) := by decide +kernel
theorem d_Mo_layers_117 : decode b_Mo_layers 117 = .ok (.goto 4, 3) := by decide +kernel
theorem d_Mo_layers_120 : decode b_Mo_layers 120 = .ok (.iload_n 2, 1) := by decide +kernel
theorem d_Mo_layers_121 : decode b_Mo_layers 121 = .ok (.istore_n 2, 1) := by decide +kernel
theorem d_Mo_layers_122 : decode b_Mo_layers 122 = .ok (.iinc 3 1, 3) := by decide +kernel
theorem d_Mo_layers_125 : decode b_Mo_layers 125 = .ok (.goto (-85), 3) := by decide +kernel
theorem d_Mo_layers_128 : decode b_Mo_layers 128 = .ok (.aload_n 0, 1) := by decide +kernel
theorem d_Mo_layers_129 : decode b_Mo_layers 129 = .ok (.iconst 0, 1) := by decide +kernel
theorem d_Mo_layers_130 : decode b_Mo_layers 130 = .ok (.putfield 116, 3) := by decide +kernel
theorem d_Mo_layers_133 : decode b_Mo_layers 133 = .ok (.aload_n 0, 1) := by decide +kernel
theorem d_Mo_layers_134 : decode b_Mo_layers 134 = .ok (.getfield 116, 3) := by decide +kernel
theorem d_Mo_layers_137 : decode b_Mo_layers 137 = .ok (.bipush 24, 2) := by decide +kernel
theorem d_Mo_layers_139 : decode b_Mo_layers 139 = .ok (.if_icmp .ge 30, 3) := by decide +kernel
theorem d_Mo_layers_142 : decode b_Mo_layers 142 = .ok (.aload_n 0, 1) := by decide +kernel
theorem d_Mo_layers_143 : decode b_Mo_layers 143 = .ok (.aload_n 0, 1) := by decide +kernel
theorem d_Mo_layers_144 : decode b_Mo_layers 144 = .ok (.getfield 116, 3) := by decide +kernel
theorem d_Mo_layers_147 : decode b_Mo_layers 147 = .ok (.invokevirtual 119, 3) := by decide +kernel
theorem d_Mo_layers_150 : decode b_Mo_layers 150 = .ok (.iconst 2, 1) := by decide +kernel
theorem d_Mo_layers_151 : decode b_Mo_layers 151 = .ok (.iload_n 2, 1) := by decide +kernel
theorem d_Mo_layers_152 : decode b_Mo_layers 152 = .ok (.imul, 1) := by decide +kernel
theorem d_Mo_layers_153 : decode b_Mo_layers 153 = .ok (.if_icmp .ge 16, 3) := by decide +kernel
theorem d_Mo_layers_156 : decode b_Mo_layers 156 = .ok (.aload_n 0, 1) := by decide +kernel
theorem d_Mo_layers_157 : decode b_Mo_layers 157 = .ok (.dup, 1) := by decide +kernel
theorem d_Mo_layers_158 : decode b_Mo_layers 158 = .ok (.getfield 116, 3) := by decide +kernel
theorem d_Mo_layers_161 : decode b_Mo_layers 161 = .ok (.iconst 1, 1) := by decide +kernel
theorem d_Mo_layers_162 : decode b_Mo_layers 162 = .ok (.iadd, 1) := by decide +kernel
theorem d_Mo_layers_163 : decode b_Mo_layers 163 = .ok (.putfield 116, 3) := by decide +kernel
theorem d_Mo_layers_166 : decode b_Mo_layers 166 = .ok (.goto (-33), 3) := by decide +kernel
theorem d_Mo_layers_169 : decode b_Mo_layers 169 = .ok (.iconst 0, 1) := by decide +kernel
theorem d_Mo_layers_170 : decode b_Mo_layers 170 = .ok (.istore_n 3, 1) := by decide +kernel
theorem d_Mo_layers_171 : decode b_Mo_layers 171 = .ok (.iload_n 3, 1) := by decide +kernel
theorem d_Mo_layers_172 : decode b_Mo_layers 172 = .ok (.bipush 24, 2) := by decide +kernel
theorem d_Mo_layers_174 : decode b_Mo_layers 174 = .ok (.if_icmp .ge 85, 3) := by decide +kernel
theorem d_Mo_layers_177 : decode b_Mo_layers 177 = .ok (.iconst 0, 1) := by decide +kernel
theorem d_Mo_layers_178 : decode b_Mo_layers 178 = .ok (.istore 4, 2) := by decide +kernel
theorem d_Mo_layers_180 : decode b_Mo_layers 180 = .ok (.iload 4, 2) := by decide +kernel
theorem d_Mo_layers_182 : decode b_Mo_layers 182 = .ok (.bipush 12, 2) := by decide +kernel
theorem d_Mo_layers_184 : decode b_Mo_layers 184 = .ok (.if_icmp .ge 69, 3) := by decide +kernel
theorem d_Mo_layers_187 : decode b_Mo_layers 187 = .ok (.iconst 0, 1) := by decide +kernel
theorem d_Mo_layers_188 : decode b_Mo_layers 188 = .ok (.istore 5, 2) := by decide +kernel
theorem d_Mo_layers_190 : decode b_Mo_layers 190 = .ok (.iload 5, 2) := by decide +kernel
theorem d_Mo_layers_192 : decode b_Mo_layers 192 = .ok (.bipush 12, 2) := by decide +kernel
theorem d_Mo_layers_194 : decode b_Mo_layers 194 = .ok (.if_icmp .ge 53, 3) := by decide +kernel
theorem d_Mo_layers_197 : decode b_Mo_layers 197 = .ok (.aload_n 0, 1) := by decide +kernel
theorem d_Mo_layers_198 : decode b_Mo_layers 198 = .ok (.getfield 31, 3) := by decide +kernel
theorem d_Mo_layers_201 : decode b_Mo_layers 201 = .ok (.sipush 144, 3) := by decide +kernel
theorem d_Mo_layers_204 : decode b_Mo_layers 204 = .ok (.iload_n 3, 1) := by decide +kernel
theorem d_Mo_layers_205 : decode b_Mo_layers 205 = .ok (.imul, 1) := by decide +kernel
theorem d_Mo_layers_206 : decode b_Mo_layers 206 = .ok (.bipush 12, 2) := by decide +kernel
theorem d_Mo_layers_208 : decode b_Mo_layers 208 = .ok (.iload 4, 2) := by decide +kernel
theorem d_Mo_layers_210 : decode b_Mo_layers 210 = .ok (.imul, 1) := by decide +kernel
theorem d_Mo_layers_211 : decode b_Mo_layers 211 = .ok (.iadd, 1) := by decide +kernel
theorem d_Mo_layers_212 : decode b_Mo_layers 212 = .ok (.iload 5, 2) := by decide +kernel
theorem d_Mo_layers_214 : decode b_Mo_layers 214 = .ok (.iadd, 1) := by decide +kernel
theorem d_Mo_layers_215 : decode b_Mo_layers 215 = .ok (.iload_n 3, 1) := by decide +kernel
theorem d_Mo_layers_216 : decode b_Mo_layers 216 = .ok (.aload_n 0, 1) := by decide +kernel
theorem d_Mo_layers_217 : decode b_Mo_layers 217 = .ok (.getfield 116, 3) := by decide +kernel
theorem d_Mo_layers_220 : decode b_Mo_layers 220 = .ok (.if_icmp .ge 19, 3) := by decide +kernel
theorem d_Mo_layers_223 : decode b_Mo_layers 223 = .ok (.aload_n 0, 1) := by decide +kernel
theorem d_Mo_layers_224 : decode b_Mo_layers 224 = .ok (.iload_n 3, 1) := by decide +kernel
theorem d_Mo_layers_225 : decode b_Mo_layers 225 = .ok (.iload 5, 2) := by decide +kernel
theorem d_Mo_layers_227 : decode b_Mo_layers 227 = .ok (.iload 4, 2) := by decide +kernel
theorem d_Mo_layers_229 : decode b_Mo_layers 229 = .ok (.invokevirtual 122, 3) := by decide +kernel
theorem d_Mo_layers_232 : decode b_Mo_layers 232 = .ok (.ifCond .eq 7, 3) := by decide +kernel
theorem d_Mo_layers_235 : decode b_Mo_layers 235 = .ok (.iconst 1, 1) := by decide +kernel
theorem d_Mo_layers_236 : decode b_Mo_layers 236 = .ok (.goto 4, 3) := by decide +kernel
theorem d_Mo_layers_239 : decode b_Mo_layers 239 = .ok (.iconst 0, 1) := by decide +kernel
theorem d_Mo_layers_240 : decode b_Mo_layers 240 = .ok (.bastore, 1) := by decide +kernel
theorem d_Mo_layers_241 : decode b_Mo_layers 241 = .ok (.iinc 5 1, 3) := by decide +kernel
theorem d_Mo_layers_244 : decode b_Mo_layers 244 = .ok (.goto (-54), 3) := by decide +kernel
theorem d_Mo_layers_247 : decode b_Mo_layers 247 = .ok (.iinc 4 1, 3) := by decide +kernel
theorem d_Mo_layers_250 : decode b_Mo_layers 250 = .ok (.goto (-70), 3) := by decide +kernel
theorem d_Mo_layers_253 : decode b_Mo_layers 253 = .ok (.iinc 3 1, 3) := by decide +kernel
theorem d_Mo_layers_256 : decode b_Mo_layers 256 = .ok (.goto (-85), 3) := by decide +kernel
theorem d_Mo_layers_259 : decode b_Mo_layers 259 = .ok (.aload_n 0, 1) := by decide +kernel
theorem d_Mo_layers_260 : decode b_Mo_layers 260 = .ok (.iconst 0, 1) := by decide +kernel
theorem d_Mo_layers_261 : decode b_Mo_layers 261 = .ok (.putfield 125, 3) := by decide +kernel
theorem d_Mo_layers_264 : decode b_Mo_layers 264 = .ok (.aload_n 0, 1) := by decide +kernel
theorem d_Mo_layers_265 : decode b_Mo_layers 265 = .ok (.invokevirtual 128, 3) := by decide +kernel
theorem d_Mo_layers_268 : decode b_Mo_layers 268 = .ok (.aload_n 0, 1) := by decide +kernel
theorem d_Mo_layers_269 : decode b_Mo_layers 269 = .ok (.getfield 116, 3) := by decide +kernel
theorem d_Mo_layers_272 : decode b_Mo_layers 272 = .ok (.ireturn, 1) := by decide +kernel
