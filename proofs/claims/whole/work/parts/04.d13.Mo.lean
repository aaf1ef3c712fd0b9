theorem d_Mo_thrown_0 : decode b_Mo_thrown 0 = .ok (.aload_n 0, 1) := by decide +kernel
theorem d_Mo_thrown_1 : decode b_Mo_thrown 1 = .ok (.getfield 60, 3) := by decide +kernel
theorem d_Mo_thrown_4 : decode b_Mo_thrown 4 = .ok (.ireturn, 1) := by decide +kernel
theorem d_Mo_in_0 : decode b_Mo_in 0 = .ok (.iload_n 0, 1) := by decide +kernel
theorem d_Mo_in_1 : decode b_Mo_in 1 = .ok (.iload_n 1, 1) := by decide +kernel
theorem d_Mo_in_2 : decode b_Mo_in 2 = .ok (.if_icmp .lt 12, 3) := by decide +kernel
theorem d_Mo_in_5 : decode b_Mo_in 5 = .ok (.iload_n 0, 1) := by decide +kernel
theorem d_Mo_in_6 : decode b_Mo_in 6 = .ok (.iload_n 2, 1) := by decide +kernel
theorem d_Mo_in_7 : decode b_Mo_in 7 = .ok (.if_icmp .gt 7, 3) := by decide +kernel
theorem d_Mo_in_10 : decode b_Mo_in 10 = .ok (.iconst 1, 1) := by decide +kernel
theorem d_Mo_in_11 : decode b_Mo_in 11 = .ok (.goto 4, 3) := by decide +kernel
theorem d_Mo_in_14 : decode b_Mo_in 14 = .ok (.iconst 0, 1) := by decide +kernel
theorem d_Mo_in_15 : decode b_Mo_in 15 = .ok (.ireturn, 1) := by decide +kernel
theorem d_Mo_corner_0 : decode b_Mo_corner 0 = .ok (.aload_n 0, 1) := by decide +kernel
theorem d_Mo_corner_1 : decode b_Mo_corner 1 = .ok (.iconst 0, 1) := by decide +kernel
theorem d_Mo_corner_2 : decode b_Mo_corner 2 = .ok (.putfield 60, 3) := by decide +kernel
theorem d_Mo_corner_5 : decode b_Mo_corner 5 = .ok (.aload_n 0, 1) := by decide +kernel
theorem d_Mo_corner_6 : decode b_Mo_corner 6 = .ok (.getfield 63, 3) := by decide +kernel
theorem d_Mo_corner_9 : decode b_Mo_corner 9 = .ok (.bipush 80, 2) := by decide +kernel
theorem d_Mo_corner_11 : decode b_Mo_corner 11 = .ok (.if_icmp .eq 33, 3) := by decide +kernel
theorem d_Mo_corner_14 : decode b_Mo_corner 14 = .ok (.iload_n 1, 1) := by decide +kernel
theorem d_Mo_corner_15 : decode b_Mo_corner 15 = .ok (.iconst 0, 1) := by decide +kernel
theorem d_Mo_corner_16 : decode b_Mo_corner 16 = .ok (.bipush 120, 2) := by decide +kernel
theorem d_Mo_corner_18 : decode b_Mo_corner 18 = .ok (.invokestatic 66, 3) := by decide +kernel
theorem d_Mo_corner_21 : decode b_Mo_corner 21 = .ok (.ifCond .eq 23, 3) := by decide +kernel
theorem d_Mo_corner_24 : decode b_Mo_corner 24 = .ok (.iload_n 2, 1) := by decide +kernel
theorem d_Mo_corner_25 : decode b_Mo_corner 25 = .ok (.iconst 0, 1) := by decide +kernel
theorem d_Mo_corner_26 : decode b_Mo_corner 26 = .ok (.bipush 120, 2) := by decide +kernel
theorem d_Mo_corner_28 : decode b_Mo_corner 28 = .ok (.invokestatic 66, 3) := by decide +kernel
theorem d_Mo_corner_31 : decode b_Mo_corner 31 = .ok (.ifCond .eq 13, 3) := by decide +kernel
theorem d_Mo_corner_34 : decode b_Mo_corner 34 = .ok (.iload_n 3, 1) := by decide +kernel
theorem d_Mo_corner_35 : decode b_Mo_corner 35 = .ok (.iconst 0, 1) := by decide +kernel
theorem d_Mo_corner_36 : decode b_Mo_corner 36 = .ok (.bipush 120, 2) := by decide +kernel
theorem d_Mo_corner_38 : decode b_Mo_corner 38 = .ok (.invokestatic 66, 3) := by decide +kernel
theorem d_Mo_corner_41 : decode b_Mo_corner 41 = .ok (.ifCond .ne 5, 3) := by decide +kernel
theorem d_Mo_corner_44 : decode b_Mo_corner 44 = .ok (.iconst (-1), 1) := by decide +kernel
theorem d_Mo_corner_45 : decode b_Mo_corner 45 = .ok (.ireturn, 1) := by decide +kernel
theorem d_Mo_corner_46 : decode b_Mo_corner 46 = .ok (.aload_n 0, 1) := by decide +kernel
theorem d_Mo_corner_47 : decode b_Mo_corner 47 = .ok (.getfield 7, 3) := by decide +kernel
theorem d_Mo_corner_50 : decode b_Mo_corner 50 = .ok (.aload_n 0, 1) := by decide +kernel
theorem d_Mo_corner_51 : decode b_Mo_corner 51 = .ok (.getfield 63, 3) := by decide +kernel
theorem d_Mo_corner_54 : decode b_Mo_corner 54 = .ok (.iload_n 1, 1) := by decide +kernel
theorem d_Mo_corner_55 : decode b_Mo_corner 55 = .ok (.iastore, 1) := by decide +kernel
theorem d_Mo_corner_56 : decode b_Mo_corner 56 = .ok (.aload_n 0, 1) := by decide +kernel
theorem d_Mo_corner_57 : decode b_Mo_corner 57 = .ok (.getfield 13, 3) := by decide +kernel
theorem d_Mo_corner_60 : decode b_Mo_corner 60 = .ok (.aload_n 0, 1) := by decide +kernel
theorem d_Mo_corner_61 : decode b_Mo_corner 61 = .ok (.getfield 63, 3) := by decide +kernel
theorem d_Mo_corner_64 : decode b_Mo_corner 64 = .ok (.iload_n 2, 1) := by decide +kernel
theorem d_Mo_corner_65 : decode b_Mo_corner 65 = .ok (.iastore, 1) := by decide +kernel
theorem d_Mo_corner_66 : decode b_Mo_corner 66 = .ok (.aload_n 0, 1) := by decide +kernel
theorem d_Mo_corner_67 : decode b_Mo_corner 67 = .ok (.getfield 16, 3) := by decide +kernel
theorem d_Mo_corner_70 : decode b_Mo_corner 70 = .ok (.aload_n 0, 1) := by decide +kernel
theorem d_Mo_corner_71 : decode b_Mo_corner 71 = .ok (.getfield 63, 3) := by decide +kernel
theorem d_Mo_corner_74 : decode b_Mo_corner 74 = .ok (.iload_n 3, 1) := by decide +kernel
theorem d_Mo_corner_75 : decode b_Mo_corner 75 = .ok (.iastore, 1) := by decide +kernel
theorem d_Mo_corner_76 : decode b_Mo_corner 76 = .ok (.aload_n 0, 1) := by decide +kernel
theorem d_Mo_corner_77 : decode b_Mo_corner 77 = .ok (.dup, 1) := by decide +kernel
theorem d_Mo_corner_78 : decode b_Mo_corner 78 = .ok (.getfield 63, 3) := by decide +kernel
theorem d_Mo_corner_81 : decode b_Mo_corner 81 = .ok (.iconst 1, 1) := by decide +kernel
theorem d_Mo_corner_82 : decode b_Mo_corner 82 = .ok (.iadd, 1) := by decide +kernel
theorem d_Mo_corner_83 : decode b_Mo_corner 83 = .ok (.putfield 63, 3) := by decide +kernel
theorem d_Mo_corner_86 : decode b_Mo_corner 86 = .ok (.aload_n 0, 1) := by decide +kernel
theorem d_Mo_corner_87 : decode b_Mo_corner 87 = .ok (.getfield 63, 3) := by decide +kernel
theorem d_Mo_corner_90 : decode b_Mo_corner 90 = .ok (.iconst 1, 1) := by decide +kernel
theorem d_Mo_corner_91 : decode b_Mo_corner 91 = .ok (.isub, 1) := by decide +kernel
theorem d_Mo_corner_92 : decode b_Mo_corner 92 = .ok (.ireturn, 1) := by decide +kernel
theorem d_Mo_add_0 : decode b_Mo_add 0 = .ok (.aload_n 0, 1) := by decide +kernel
theorem d_Mo_add_1 : decode b_Mo_add 1 = .ok (.getfield 19, 3) := by decide +kernel
theorem d_Mo_add_4 : decode b_Mo_add 4 = .ok (.iconst 3, 1) := by decide +kernel
theorem d_Mo_add_5 : decode b_Mo_add 5 = .ok (.aload_n 0, 1) := by decide +kernel
theorem d_Mo_add_6 : decode b_Mo_add 6 = .ok (.getfield 70, 3) := by decide +kernel
theorem d_Mo_add_9 : decode b_Mo_add 9 = .ok (.imul, 1) := by decide +kernel
theorem d_Mo_add_10 : decode b_Mo_add 10 = .ok (.iload_n 1, 1) := by decide +kernel
theorem d_Mo_add_11 : decode b_Mo_add 11 = .ok (.iastore, 1) := by decide +kernel
theorem d_Mo_add_12 : decode b_Mo_add 12 = .ok (.aload_n 0, 1) := by decide +kernel
theorem d_Mo_add_13 : decode b_Mo_add 13 = .ok (.getfield 19, 3) := by decide +kernel
theorem d_Mo_add_16 : decode b_Mo_add 16 = .ok (.iconst 3, 1) := by decide +kernel
theorem d_Mo_add_17 : decode b_Mo_add 17 = .ok (.aload_n 0, 1) := by decide +kernel
theorem d_Mo_add_18 : decode b_Mo_add 18 = .ok (.getfield 70, 3) := by decide +kernel
theorem d_Mo_add_21 : decode b_Mo_add 21 = .ok (.imul, 1) := by decide +kernel
theorem d_Mo_add_22 : decode b_Mo_add 22 = .ok (.iconst 1, 1) := by decide +kernel
theorem d_Mo_add_23 : decode b_Mo_add 23 = .ok (.iadd, 1) := by decide +kernel
theorem d_Mo_add_24 : decode b_Mo_add 24 = .ok (.iload_n 2, 1) := by decide +kernel
theorem d_Mo_add_25 : decode b_Mo_add 25 = .ok (.iastore, 1) := by decide +kernel
theorem d_Mo_add_26 : decode b_Mo_add 26 = .ok (.aload_n 0, 1) := by decide +kernel
theorem d_Mo_add_27 : decode b_Mo_add 27 = .ok (.getfield 19, 3) := by decide +kernel
theorem d_Mo_add_30 : decode b_Mo_add 30 = .ok (.iconst 3, 1) := by decide +kernel
theorem d_Mo_add_31 : decode b_Mo_add 31 = .ok (.aload_n 0, 1) := by decide +kernel
theorem d_Mo_add_32 : decode b_Mo_add 32 = .ok (.getfield 70, 3) := by decide +kernel
theorem d_Mo_add_35 : decode b_Mo_add 35 = .ok (.imul, 1) := by decide +kernel
theorem d_Mo_add_36 : decode b_Mo_add 36 = .ok (.iconst 2, 1) := by decide +kernel
theorem d_Mo_add_37 : decode b_Mo_add 37 = .ok (.iadd, 1) := by decide +kernel
theorem d_Mo_add_38 : decode b_Mo_add 38 = .ok (.iload_n 3, 1) := by decide +kernel
theorem d_Mo_add_39 : decode b_Mo_add 39 = .ok (.iastore, 1) := by decide +kernel
theorem d_Mo_add_40 : decode b_Mo_add 40 = .ok (.aload_n 0, 1) := by decide +kernel
theorem d_Mo_add_41 : decode b_Mo_add 41 = .ok (.dup, 1) := by decide +kernel
theorem d_Mo_add_42 : decode b_Mo_add 42 = .ok (.getfield 70, 3) := by decide +kernel
theorem d_Mo_add_45 : decode b_Mo_add 45 = .ok (.iconst 1, 1) := by decide +kernel
theorem d_Mo_add_46 : decode b_Mo_add 46 = .ok (.iadd, 1) := by decide +kernel
theorem d_Mo_add_47 : decode b_Mo_add 47 = .ok (.putfield 70, 3) := by decide +kernel
theorem d_Mo_add_50 : decode b_Mo_add 50 = .ok (.aload_n 0, 1) := by decide +kernel
theorem d_Mo_add_51 : decode b_Mo_add 51 = .ok (.getfield 70, 3) := by decide +kernel
theorem d_Mo_add_54 : decode b_Mo_add 54 = .ok (.iconst 1, 1) := by decide +kernel
theorem d_Mo_add_55 : decode b_Mo_add 55 = .ok (.isub, 1) := by decide +kernel
theorem d_Mo_add_56 : decode b_Mo_add 56 = .ok (.ireturn, 1) := by decide +kernel
theorem d_Mo_tri_0 : decode b_Mo_tri 0 = .ok (.aload_n 0, 1) := by decide +kernel
theorem d_Mo_tri_1 : decode b_Mo_tri 1 = .ok (.iconst 0, 1) := by decide +kernel
theorem d_Mo_tri_2 : decode b_Mo_tri 2 = .ok (.putfield 60, 3) := by decide +kernel
theorem d_Mo_tri_5 : decode b_Mo_tri 5 = .ok (.aload_n 0, 1) := by decide +kernel
theorem d_Mo_tri_6 : decode b_Mo_tri 6 = .ok (.getfield 70, 3) := by decide +kernel
theorem d_Mo_tri_9 : decode b_Mo_tri 9 = .ok (.bipush 120, 2) := by decide +kernel
theorem d_Mo_tri_11 : decode b_Mo_tri 11 = .ok (.if_icmp .eq 45, 3) := by decide +kernel
theorem d_Mo_tri_14 : decode b_Mo_tri 14 = .ok (.iload_n 1, 1) := by decide +kernel
theorem d_Mo_tri_15 : decode b_Mo_tri 15 = .ok (.iconst 0, 1) := by decide +kernel
theorem d_Mo_tri_16 : decode b_Mo_tri 16 = .ok (.aload_n 0, 1) := by decide +kernel
theorem d_Mo_tri_17 : decode b_Mo_tri 17 = .ok (.getfield 63, 3) := by decide +kernel
theorem d_Mo_tri_20 : decode b_Mo_tri 20 = .ok (.iconst 1, 1) := by decide +kernel
theorem d_Mo_tri_21 : decode b_Mo_tri 21 = .ok (.isub, 1) := by decide +kernel
theorem d_Mo_tri_22 : decode b_Mo_tri 22 = .ok (.invokestatic 66, 3) := by decide +kernel
theorem d_Mo_tri_25 : decode b_Mo_tri 25 = .ok (.ifCond .eq 31, 3) := by decide +kernel
theorem d_Mo_tri_28 : decode b_Mo_tri 28 = .ok (.iload_n 2, 1) := by decide +kernel
theorem d_Mo_tri_29 : decode b_Mo_tri 29 = .ok (.iconst 0, 1) := by decide +kernel
theorem d_Mo_tri_30 : decode b_Mo_tri 30 = .ok (.aload_n 0, 1) := by decide +kernel
theorem d_Mo_tri_31 : decode b_Mo_tri 31 = .ok (.getfield 63, 3) := by decide +kernel
theorem d_Mo_tri_34 : decode b_Mo_tri 34 = .ok (.iconst 1, 1) := by decide +kernel
theorem d_Mo_tri_35 : decode b_Mo_tri 35 = .ok (.isub, 1) := by decide +kernel
theorem d_Mo_tri_36 : decode b_Mo_tri 36 = .ok (.invokestatic 66, 3) := by decide +kernel
theorem d_Mo_tri_39 : decode b_Mo_tri 39 = .ok (.ifCond .eq 17, 3) := by decide +kernel
theorem d_Mo_tri_42 : decode b_Mo_tri 42 = .ok (.iload_n 3, 1) := by decide +kernel
theorem d_Mo_tri_43 : decode b_Mo_tri 43 = .ok (.iconst 0, 1) := by decide +kernel
theorem d_Mo_tri_44 : decode b_Mo_tri 44 = .ok (.aload_n 0, 1) := by decide +kernel
theorem d_Mo_tri_45 : decode b_Mo_tri 45 = .ok (.getfield 63, 3) := by decide +kernel
theorem d_Mo_tri_48 : decode b_Mo_tri 48 = .ok (.iconst 1, 1) := by decide +kernel
theorem d_Mo_tri_49 : decode b_Mo_tri 49 = .ok (.isub, 1) := by decide +kernel
theorem d_Mo_tri_50 : decode b_Mo_tri 50 = .ok (.invokestatic 66, 3) := by decide +kernel
theorem d_Mo_tri_53 : decode b_Mo_tri 53 = .ok (.ifCond .ne 5, 3) := by decide +kernel
theorem d_Mo_tri_56 : decode b_Mo_tri 56 = .ok (.iconst (-1), 1) := by decide +kernel
theorem d_Mo_tri_57 : decode b_Mo_tri 57 = .ok (.ireturn, 1) := by decide +kernel
theorem d_Mo_tri_58 : decode b_Mo_tri 58 = .ok (.aload_n 0, 1) := by decide +kernel
theorem d_Mo_tri_59 : decode b_Mo_tri 59 = .ok (.iload_n 1, 1) := by decide +kernel
theorem d_Mo_tri_60 : decode b_Mo_tri 60 = .ok (.iload_n 2, 1) := by decide +kernel
theorem d_Mo_tri_61 : decode b_Mo_tri 61 = .ok (.iload_n 3, 1) := by decide +kernel
theorem d_Mo_tri_62 : decode b_Mo_tri 62 = .ok (.invokevirtual 73, 3) := by decide +kernel
theorem d_Mo_tri_65 : decode b_Mo_tri 65 = .ok (.ireturn, 1) := by decide +kernel
theorem d_Mo_lowestAt_0 : decode b_Mo_lowestAt 0 = .ok (.iconst 0, 1) := by decide +kernel
theorem d_Mo_lowestAt_1 : decode b_Mo_lowestAt 1 = .ok (.istore_n 2, 1) := by decide +kernel
theorem d_Mo_lowestAt_2 : decode b_Mo_lowestAt 2 = .ok (.aload_n 0, 1) := by decide +kernel
theorem d_Mo_lowestAt_3 : decode b_Mo_lowestAt 3 = .ok (.getfield 7, 3) := by decide +kernel
theorem d_Mo_lowestAt_6 : decode b_Mo_lowestAt 6 = .ok (.iload_n 2, 1) := by decide +kernel
theorem d_Mo_lowestAt_7 : decode b_Mo_lowestAt 7 = .ok (.iaload, 1) := by decide +kernel
theorem d_Mo_lowestAt_8 : decode b_Mo_lowestAt 8 = .ok (.aload_n 0, 1) := by decide +kernel
theorem d_Mo_lowestAt_9 : decode b_Mo_lowestAt 9 = .ok (.getfield 7, 3) := by decide +kernel
theorem d_Mo_lowestAt_12 : decode b_Mo_lowestAt 12 = .ok (.iload_n 1, 1) := by decide +kernel
theorem d_Mo_lowestAt_13 : decode b_Mo_lowestAt 13 = .ok (.iaload, 1) := by decide +kernel
theorem d_Mo_lowestAt_14 : decode b_Mo_lowestAt 14 = .ok (.if_icmp .ne 33, 3) := by decide +kernel
theorem d_Mo_lowestAt_17 : decode b_Mo_lowestAt 17 = .ok (.aload_n 0, 1) := by decide +kernel
theorem d_Mo_lowestAt_18 : decode b_Mo_lowestAt 18 = .ok (.getfield 13, 3) := by decide +kernel
theorem d_Mo_lowestAt_21 : decode b_Mo_lowestAt 21 = .ok (.iload_n 2, 1) := by decide +kernel
theorem d_Mo_lowestAt_22 : decode b_Mo_lowestAt 22 = .ok (.iaload, 1) := by decide +kernel
theorem d_Mo_lowestAt_23 : decode b_Mo_lowestAt 23 = .ok (.aload_n 0, 1) := by decide +kernel
theorem d_Mo_lowestAt_24 : decode b_Mo_lowestAt 24 = .ok (.getfield 13, 3) := by decide +kernel
theorem d_Mo_lowestAt_27 : decode b_Mo_lowestAt 27 = .ok (.iload_n 1, 1) := by decide +kernel
theorem d_Mo_lowestAt_28 : decode b_Mo_lowestAt 28 = .ok (.iaload, 1) := by decide +kernel
theorem d_Mo_lowestAt_29 : decode b_Mo_lowestAt 29 = .ok (.if_icmp .ne 18, 3) := by decide +kernel
theorem d_Mo_lowestAt_32 : decode b_Mo_lowestAt 32 = .ok (.aload_n 0, 1) := by decide +kernel
theorem d_Mo_lowestAt_33 : decode b_Mo_lowestAt 33 = .ok (.getfield 16, 3) := by decide +kernel
theorem d_Mo_lowestAt_36 : decode b_Mo_lowestAt 36 = .ok (.iload_n 2, 1) := by decide +kernel
theorem d_Mo_lowestAt_37 : decode b_Mo_lowestAt 37 = .ok (.iaload, 1) := by decide +kernel
theorem d_Mo_lowestAt_38 : decode b_Mo_lowestAt 38 = .ok (.aload_n 0, 1) := by decide +kernel
theorem d_Mo_lowestAt_39 : decode b_Mo_lowestAt 39 = .ok (.getfield 16, 3) := by decide +kernel
theorem d_Mo_lowestAt_42 : decode b_Mo_lowestAt 42 = .ok (.iload_n 1, 1) := by decide +kernel
theorem d_Mo_lowestAt_43 : decode b_Mo_lowestAt 43 = .ok (.iaload, 1) := by decide +kernel
theorem d_Mo_lowestAt_44 : decode b_Mo_lowestAt 44 = .ok (.if_icmp .eq 9, 3) := by decide +kernel
theorem d_Mo_lowestAt_47 : decode b_Mo_lowestAt 47 = .ok (.iinc 2 1, 3) := by decide +kernel
theorem d_Mo_lowestAt_50 : decode b_Mo_lowestAt 50 = .ok (.goto (-48), 3) := by decide +kernel
theorem d_Mo_lowestAt_53 : decode b_Mo_lowestAt 53 = .ok (.iload_n 2, 1) := by decide +kernel
theorem d_Mo_lowestAt_54 : decode b_Mo_lowestAt 54 = .ok (.ireturn, 1) := by decide +kernel
theorem d_Mo_join_0 : decode b_Mo_join 0 = .ok (.iconst 0, 1) := by decide +kernel
theorem d_Mo_join_1 : decode b_Mo_join 1 = .ok (.istore_n 1, 1) := by decide +kernel
theorem d_Mo_join_2 : decode b_Mo_join 2 = .ok (.iload_n 1, 1) := by decide +kernel
theorem d_Mo_join_3 : decode b_Mo_join 3 = .ok (.aload_n 0, 1) := by decide +kernel
theorem d_Mo_join_4 : decode b_Mo_join 4 = .ok (.getfield 63, 3) := by decide +kernel
theorem d_Mo_join_7 : decode b_Mo_join 7 = .ok (.if_icmp .ge 87, 3) := by decide +kernel
theorem d_Mo_join_10 : decode b_Mo_join 10 = .ok (.aload_n 0, 1) := by decide +kernel
theorem d_Mo_join_11 : decode b_Mo_join 11 = .ok (.iload_n 1, 1) := by decide +kernel
theorem d_Mo_join_12 : decode b_Mo_join 12 = .ok (.invokevirtual 77, 3) := by decide +kernel
theorem d_Mo_join_15 : decode b_Mo_join 15 = .ok (.istore_n 2, 1) := by decide +kernel
theorem d_Mo_join_16 : decode b_Mo_join 16 = .ok (.iload_n 2, 1) := by decide +kernel
theorem d_Mo_join_17 : decode b_Mo_join 17 = .ok (.iload_n 1, 1) := by decide +kernel
theorem d_Mo_join_18 : decode b_Mo_join 18 = .ok (.if_icmp .ne 6, 3) := by decide +kernel
theorem d_Mo_join_21 : decode b_Mo_join 21 = .ok (.goto 67, 3) := by decide +kernel
theorem d_Mo_join_24 : decode b_Mo_join 24 = .ok (.iconst 0, 1) := by decide +kernel
theorem d_Mo_join_25 : decode b_Mo_join 25 = .ok (.istore_n 3, 1) := by decide +kernel
theorem d_Mo_join_26 : decode b_Mo_join 26 = .ok (.iconst 0, 1) := by decide +kernel
theorem d_Mo_join_27 : decode b_Mo_join 27 = .ok (.istore 4, 2) := by decide +kernel
theorem d_Mo_join_29 : decode b_Mo_join 29 = .ok (.iload 4, 2) := by decide +kernel
theorem d_Mo_join_31 : decode b_Mo_join 31 = .ok (.iconst 3, 1) := by decide +kernel
theorem d_Mo_join_32 : decode b_Mo_join 32 = .ok (.aload_n 0, 1) := by decide +kernel
theorem d_Mo_join_33 : decode b_Mo_join 33 = .ok (.getfield 70, 3) := by decide +kernel
theorem d_Mo_join_36 : decode b_Mo_join 36 = .ok (.imul, 1) := by decide +kernel
theorem d_Mo_join_37 : decode b_Mo_join 37 = .ok (.if_icmp .ge 33, 3) := by decide +kernel
theorem d_Mo_join_40 : decode b_Mo_join 40 = .ok (.aload_n 0, 1) := by decide +kernel
theorem d_Mo_join_41 : decode b_Mo_join 41 = .ok (.getfield 19, 3) := by decide +kernel
theorem d_Mo_join_44 : decode b_Mo_join 44 = .ok (.iload 4, 2) := by decide +kernel
theorem d_Mo_join_46 : decode b_Mo_join 46 = .ok (.iaload, 1) := by decide +kernel
theorem d_Mo_join_47 : decode b_Mo_join 47 = .ok (.iload_n 1, 1) := by decide +kernel
theorem d_Mo_join_48 : decode b_Mo_join 48 = .ok (.if_icmp .eq 6, 3) := by decide +kernel
theorem d_Mo_join_51 : decode b_Mo_join 51 = .ok (.goto 13, 3) := by decide +kernel
theorem d_Mo_join_54 : decode b_Mo_join 54 = .ok (.aload_n 0, 1) := by decide +kernel
theorem d_Mo_join_55 : decode b_Mo_join 55 = .ok (.getfield 19, 3) := by decide +kernel
theorem d_Mo_join_58 : decode b_Mo_join 58 = .ok (.iload 4, 2) := by decide +kernel
theorem d_Mo_join_60 : decode b_Mo_join 60 = .ok (.iload_n 2, 1) := by decide +kernel
theorem d_Mo_join_61 : decode b_Mo_join 61 = .ok (.iastore, 1) := by decide +kernel
theorem d_Mo_join_62 : decode b_Mo_join 62 = .ok (.iconst 1, 1) := by decide +kernel
theorem d_Mo_join_63 : decode b_Mo_join 63 = .ok (.istore_n 3, 1) := by decide +kernel
theorem d_Mo_join_64 : decode b_Mo_join 64 = .ok (.iinc 4 1, 3) := by decide +kernel
theorem d_Mo_join_67 : decode b_Mo_join 67 = .ok (.goto (-38), 3) := by decide +kernel
theorem d_Mo_join_70 : decode b_Mo_join 70 = .ok (.aload_n 0, 1) := by decide +kernel
theorem d_Mo_join_71 : decode b_Mo_join 71 = .ok (.dup, 1) := by decide +kernel
theorem d_Mo_join_72 : decode b_Mo_join 72 = .ok (.getfield 81, 3) := by decide +kernel
theorem d_Mo_join_75 : decode b_Mo_join 75 = .ok (.iload_n 3, 1) := by decide +kernel
theorem d_Mo_join_76 : decode b_Mo_join 76 = .ok (.ifCond .eq 7, 3) := by decide +kernel
theorem d_Mo_join_79 : decode b_Mo_join 79 = .ok (.iconst 1, 1) := by decide +kernel
theorem d_Mo_join_80 : decode b_Mo_join 80 = .ok (.goto 4, 3) := by decide +kernel
theorem d_Mo_join_83 : decode b_Mo_join 83 = .ok (.iconst 0, 1) := by decide +kernel
theorem d_Mo_join_84 : decode b_Mo_join 84 = .ok (.iadd, 1) := by decide +kernel
theorem d_Mo_join_85 : decode b_Mo_join 85 = .ok (.putfield 81, 3) := by decide +kernel
theorem d_Mo_join_88 : decode b_Mo_join 88 = .ok (.iinc 1 1, 3) := by decide +kernel
theorem d_Mo_join_91 : decode b_Mo_join 91 = .ok (.goto (-89), 3) := by decide +kernel
theorem d_Mo_join_94 : decode b_Mo_join 94 = .ok (.return_, 1) := by decide +kernel
theorem d_Mo_isFlat_0 : decode b_Mo_isFlat 0 = .ok (.aload_n 0, 1) := by decide +kernel
theorem d_Mo_isFlat_1 : decode b_Mo_isFlat 1 = .ok (.getfield 19, 3) := by decide +kernel
theorem d_Mo_isFlat_4 : decode b_Mo_isFlat 4 = .ok (.iconst 3, 1) := by decide +kernel
theorem d_Mo_isFlat_5 : decode b_Mo_isFlat 5 = .ok (.iload_n 1, 1) := by decide +kernel
theorem d_Mo_isFlat_6 : decode b_Mo_isFlat 6 = .ok (.imul, 1) := by decide +kernel
theorem d_Mo_isFlat_7 : decode b_Mo_isFlat 7 = .ok (.iaload, 1) := by decide +kernel
theorem d_Mo_isFlat_8 : decode b_Mo_isFlat 8 = .ok (.istore_n 2, 1) := by decide +kernel
theorem d_Mo_isFlat_9 : decode b_Mo_isFlat 9 = .ok (.aload_n 0, 1) := by decide +kernel
theorem d_Mo_isFlat_10 : decode b_Mo_isFlat 10 = .ok (.getfield 19, 3) := by decide +kernel
theorem d_Mo_isFlat_13 : decode b_Mo_isFlat 13 = .ok (.iconst 3, 1) := by decide +kernel
theorem d_Mo_isFlat_14 : decode b_Mo_isFlat 14 = .ok (.iload_n 1, 1) := by decide +kernel
theorem d_Mo_isFlat_15 : decode b_Mo_isFlat 15 = .ok (.imul, 1) := by decide +kernel
theorem d_Mo_isFlat_16 : decode b_Mo_isFlat 16 = .ok (.iconst 1, 1) := by decide +kernel
theorem d_Mo_isFlat_17 : decode b_Mo_isFlat 17 = .ok (.iadd, 1) := by decide +kernel
theorem d_Mo_isFlat_18 : decode b_Mo_isFlat 18 = .ok (.iaload, 1) := by decide +kernel
theorem d_Mo_isFlat_19 : decode b_Mo_isFlat 19 = .ok (.istore_n 3, 1) := by decide +kernel
theorem d_Mo_isFlat_20 : decode b_Mo_isFlat 20 = .ok (.aload_n 0, 1) := by decide +kernel
theorem d_Mo_isFlat_21 : decode b_Mo_isFlat 21 = .ok (.getfield 19, 3) := by decide +kernel
theorem d_Mo_isFlat_24 : decode b_Mo_isFlat 24 = .ok (.iconst 3, 1) := by decide +kernel
theorem d_Mo_isFlat_25 : decode b_Mo_isFlat 25 = .ok (.iload_n 1, 1) := by decide +kernel
theorem d_Mo_isFlat_26 : decode b_Mo_isFlat 26 = .ok (.imul, 1) := by decide +kernel
theorem d_Mo_isFlat_27 : decode b_Mo_isFlat 27 = .ok (.iconst 2, 1) := by decide +kernel
theorem d_Mo_isFlat_28 : decode b_Mo_isFlat 28 = .ok (.iadd, 1) := by decide +kernel
theorem d_Mo_isFlat_29 : decode b_Mo_isFlat 29 = .ok (.iaload, 1) := by decide +kernel
theorem d_Mo_isFlat_30 : decode b_Mo_isFlat 30 = .ok (.istore 4, 2) := by decide +kernel
theorem d_Mo_isFlat_32 : decode b_Mo_isFlat 32 = .ok (.aload_n 0, 1) := by decide +kernel
theorem d_Mo_isFlat_33 : decode b_Mo_isFlat 33 = .ok (.getfield 7, 3) := by decide +kernel
theorem d_Mo_isFlat_36 : decode b_Mo_isFlat 36 = .ok (.iload_n 3, 1) := by decide +kernel
theorem d_Mo_isFlat_37 : decode b_Mo_isFlat 37 = .ok (.iaload, 1) := by decide +kernel
theorem d_Mo_isFlat_38 : decode b_Mo_isFlat 38 = .ok (.aload_n 0, 1) := by decide +kernel
theorem d_Mo_isFlat_39 : decode b_Mo_isFlat 39 = .ok (.getfield 7, 3) := by decide +kernel
theorem d_Mo_isFlat_42 : decode b_Mo_isFlat 42 = .ok (.iload_n 2, 1) := by decide +kernel
theorem d_Mo_isFlat_43 : decode b_Mo_isFlat 43 = .ok (.iaload, 1) := by decide +kernel
theorem d_Mo_isFlat_44 : decode b_Mo_isFlat 44 = .ok (.isub, 1) := by decide +kernel
theorem d_Mo_isFlat_45 : decode b_Mo_isFlat 45 = .ok (.istore 5, 2) := by decide +kernel
theorem d_Mo_isFlat_47 : decode b_Mo_isFlat 47 = .ok (.aload_n 0, 1) := by decide +kernel
theorem d_Mo_isFlat_48 : decode b_Mo_isFlat 48 = .ok (.getfield 13, 3) := by decide +kernel
theorem d_Mo_isFlat_51 : decode b_Mo_isFlat 51 = .ok (.iload_n 3, 1) := by decide +kernel
theorem d_Mo_isFlat_52 : decode b_Mo_isFlat 52 = .ok (.iaload, 1) := by decide +kernel
theorem d_Mo_isFlat_53 : decode b_Mo_isFlat 53 = .ok (.aload_n 0, 1) := by decide +kernel
theorem d_Mo_isFlat_54 : decode b_Mo_isFlat 54 = .ok (.getfield 13, 3) := by decide +kernel
theorem d_Mo_isFlat_57 : decode b_Mo_isFlat 57 = .ok (.iload_n 2, 1) := by decide +kernel
theorem d_Mo_isFlat_58 : decode b_Mo_isFlat 58 = .ok (.iaload, 1) := by decide +kernel
theorem d_Mo_isFlat_59 : decode b_Mo_isFlat 59 = .ok (.isub, 1) := by decide +kernel
theorem d_Mo_isFlat_60 : decode b_Mo_isFlat 60 = .ok (.istore 6, 2) := by decide +kernel
theorem d_Mo_isFlat_62 : decode b_Mo_isFlat 62 = .ok (.aload_n 0, 1) := by decide +kernel
theorem d_Mo_isFlat_63 : decode b_Mo_isFlat 63 = .ok (.getfield 16, 3) := by decide +kernel
theorem d_Mo_isFlat_66 : decode b_Mo_isFlat 66 = .ok (.iload_n 3, 1) := by decide +kernel
theorem d_Mo_isFlat_67 : decode b_Mo_isFlat 67 = .ok (.iaload, 1) := by decide +kernel
theorem d_Mo_isFlat_68 : decode b_Mo_isFlat 68 = .ok (.aload_n 0, 1) := by decide +kernel
theorem d_Mo_isFlat_69 : decode b_Mo_isFlat 69 = .ok (.getfield 16, 3) := by decide +kernel
theorem d_Mo_isFlat_72 : decode b_Mo_isFlat 72 = .ok (.iload_n 2, 1) := by decide +kernel
theorem d_Mo_isFlat_73 : decode b_Mo_isFlat 73 = .ok (.iaload, 1) := by decide +kernel
theorem d_Mo_isFlat_74 : decode b_Mo_isFlat 74 = .ok (.isub, 1) := by decide +kernel
theorem d_Mo_isFlat_75 : decode b_Mo_isFlat 75 = .ok (.istore 7, 2) := by decide +kernel
theorem d_Mo_isFlat_77 : decode b_Mo_isFlat 77 = .ok (.aload_n 0, 1) := by decide +kernel
theorem d_Mo_isFlat_78 : decode b_Mo_isFlat 78 = .ok (.getfield 7, 3) := by decide +kernel
theorem d_Mo_isFlat_81 : decode b_Mo_isFlat 81 = .ok (.iload 4, 2) := by decide +kernel
theorem d_Mo_isFlat_83 : decode b_Mo_isFlat 83 = .ok (.iaload, 1) := by decide +kernel
theorem d_Mo_isFlat_84 : decode b_Mo_isFlat 84 = .ok (.aload_n 0, 1) := by decide +kernel
theorem d_Mo_isFlat_85 : decode b_Mo_isFlat 85 = .ok (.getfield 7, 3) := by decide +kernel
theorem d_Mo_isFlat_88 : decode b_Mo_isFlat 88 = .ok (.iload_n 2, 1) := by decide +kernel
theorem d_Mo_isFlat_89 : decode b_Mo_isFlat 89 = .ok (.iaload, 1) := by decide +kernel
theorem d_Mo_isFlat_90 : decode b_Mo_isFlat 90 = .ok (.isub, 1) := by decide +kernel
theorem d_Mo_isFlat_91 : decode b_Mo_isFlat 91 = .ok (.istore 8, 2) := by decide +kernel
theorem d_Mo_isFlat_93 : decode b_Mo_isFlat 93 = .ok (.aload_n 0, 1) := by decide +kernel
theorem d_Mo_isFlat_94 : decode b_Mo_isFlat 94 = .ok (.getfield 13, 3) := by decide +kernel
theorem d_Mo_isFlat_97 : decode b_Mo_isFlat 97 = .ok (.iload 4, 2) := by decide +kernel
theorem d_Mo_isFlat_99 : decode b_Mo_isFlat 99 = .ok (.iaload, 1) := by decide +kernel
theorem d_Mo_isFlat_100 : decode b_Mo_isFlat 100 = .ok (.aload_n 0, 1) := by decide +kernel
theorem d_Mo_isFlat_101 : decode b_Mo_isFlat 101 = .ok (.getfield 13, 3) := by decide +kernel
theorem d_Mo_isFlat_104 : decode b_Mo_isFlat 104 = .ok (.iload_n 2, 1) := by decide +kernel
theorem d_Mo_isFlat_105 : decode b_Mo_isFlat 105 = .ok (.iaload, 1) := by decide +kernel
theorem d_Mo_isFlat_106 : decode b_Mo_isFlat 106 = .ok (.isub, 1) := by decide +kernel
theorem d_Mo_isFlat_107 : decode b_Mo_isFlat 107 = .ok (.istore 9, 2) := by decide +kernel
theorem d_Mo_isFlat_109 : decode b_Mo_isFlat 109 = .ok (.aload_n 0, 1) := by decide +kernel
theorem d_Mo_isFlat_110 : decode b_Mo_isFlat 110 = .ok (.getfield 16, 3) := by decide +kernel
theorem d_Mo_isFlat_113 : decode b_Mo_isFlat 113 = .ok (.iload 4, 2) := by decide +kernel
theorem d_Mo_isFlat_115 : decode b_Mo_isFlat 115 = .ok (.iaload, 1) := by decide +kernel
theorem d_Mo_isFlat_116 : decode b_Mo_isFlat 116 = .ok (.aload_n 0, 1) := by decide +kernel
theorem d_Mo_isFlat_117 : decode b_Mo_isFlat 117 = .ok (.getfield 16, 3) := by decide +kernel
theorem d_Mo_isFlat_120 : decode b_Mo_isFlat 120 = .ok (.iload_n 2, 1) := by decide +kernel
theorem d_Mo_isFlat_121 : decode b_Mo_isFlat 121 = .ok (.iaload, 1) := by decide +kernel
theorem d_Mo_isFlat_122 : decode b_Mo_isFlat 122 = .ok (.isub, 1) := by decide +kernel
theorem d_Mo_isFlat_123 : decode b_Mo_isFlat 123 = .ok (.istore 10, 2) := by decide +kernel
theorem d_Mo_isFlat_125 : decode b_Mo_isFlat 125 = .ok (.iload 6, 2) := by decide +kernel
theorem d_Mo_isFlat_127 : decode b_Mo_isFlat 127 = .ok (.iload 10, 2) := by decide +kernel
theorem d_Mo_isFlat_129 : decode b_Mo_isFlat 129 = .ok (.imul, 1) := by decide +kernel
theorem d_Mo_isFlat_130 : decode b_Mo_isFlat 130 = .ok (.iload 7, 2) := by decide +kernel
theorem d_Mo_isFlat_132 : decode b_Mo_isFlat 132 = .ok (.iload 9, 2) := by decide +kernel
theorem d_Mo_isFlat_134 : decode b_Mo_isFlat 134 = .ok (.imul, 1) := by decide +kernel
theorem d_Mo_isFlat_135 : decode b_Mo_isFlat 135 = .ok (.if_icmp .ne 33, 3) := by decide +kernel
theorem d_Mo_isFlat_138 : decode b_Mo_isFlat 138 = .ok (.iload 7, 2) := by decide +kernel
theorem d_Mo_isFlat_140 : decode b_Mo_isFlat 140 = .ok (.iload 8, 2) := by decide +kernel
theorem d_Mo_isFlat_142 : decode b_Mo_isFlat 142 = .ok (.imul, 1) := by decide +kernel
theorem d_Mo_isFlat_143 : decode b_Mo_isFlat 143 = .ok (.iload 5, 2) := by decide +kernel
theorem d_Mo_isFlat_145 : decode b_Mo_isFlat 145 = .ok (.iload 10, 2) := by decide +kernel
theorem d_Mo_isFlat_147 : decode b_Mo_isFlat 147 = .ok (.imul, 1) := by decide +kernel
theorem d_Mo_isFlat_148 : decode b_Mo_isFlat 148 = .ok (.if_icmp .ne 20, 3) := by decide +kernel
theorem d_Mo_isFlat_151 : decode b_Mo_isFlat 151 = .ok (.iload 5, 2) := by decide +kernel
theorem d_Mo_isFlat_153 : decode b_Mo_isFlat 153 = .ok (.iload 9, 2) := by decide +kernel
theorem d_Mo_isFlat_155 : decode b_Mo_isFlat 155 = .ok (.imul, 1) := by decide +kernel
theorem d_Mo_isFlat_156 : decode b_Mo_isFlat 156 = .ok (.iload 6, 2) := by decide +kernel
theorem d_Mo_isFlat_158 : decode b_Mo_isFlat 158 = .ok (.iload 8, 2) := by decide +kernel
theorem d_Mo_isFlat_160 : decode b_Mo_isFlat 160 = .ok (.imul, 1) := by decide +kernel
theorem d_Mo_isFlat_161 : decode b_Mo_isFlat 161 = .ok (.if_icmp .ne 7, 3) := by decide +kernel
theorem d_Mo_isFlat_164 : decode b_Mo_isFlat 164 = .ok (.iconst 1, 1) := by decide +kernel
theorem d_Mo_isFlat_165 : decode b_Mo_isFlat 165 = .ok (.goto 4, 3) := by decide +kernel
theorem d_Mo_isFlat_168 : decode b_Mo_isFlat 168 = .ok (.iconst 0, 1) := by decide +kernel
theorem d_Mo_isFlat_169 : decode b_Mo_isFlat 169 = .ok (.ireturn, 1) := by decide +kernel
theorem d_Mo_drop_0 : decode b_Mo_drop 0 = .ok (.iconst 0, 1) := by decide +kernel
theorem d_Mo_drop_1 : decode b_Mo_drop 1 = .ok (.istore_n 1, 1) := by decide +kernel
theorem d_Mo_drop_2 : decode b_Mo_drop 2 = .ok (.iconst 0, 1) := by decide +kernel
theorem d_Mo_drop_3 : decode b_Mo_drop 3 = .ok (.istore_n 2, 1) := by decide +kernel
theorem d_Mo_drop_4 : decode b_Mo_drop 4 = .ok (.iload_n 2, 1) := by decide +kernel
theorem d_Mo_drop_5 : decode b_Mo_drop 5 = .ok (.aload_n 0, 1) := by decide +kernel
theorem d_Mo_drop_6 : decode b_Mo_drop 6 = .ok (.getfield 70, 3) := by decide +kernel
theorem d_Mo_drop_9 : decode b_Mo_drop 9 = .ok (.if_icmp .ge 56, 3) := by decide +kernel
theorem d_Mo_drop_12 : decode b_Mo_drop 12 = .ok (.aload_n 0, 1) := by decide +kernel
theorem d_Mo_drop_13 : decode b_Mo_drop 13 = .ok (.iload_n 2, 1) := by decide +kernel
theorem d_Mo_drop_14 : decode b_Mo_drop 14 = .ok (.invokevirtual 84, 3) := by decide +kernel
theorem d_Mo_drop_17 : decode b_Mo_drop 17 = .ok (.ifCond .eq 6, 3) := by decide +kernel
theorem d_Mo_drop_20 : decode b_Mo_drop 20 = .ok (.goto 39, 3) := by decide +kernel
theorem d_Mo_drop_23 : decode b_Mo_drop 23 = .ok (.iconst 0, 1) := by decide +kernel
theorem d_Mo_drop_24 : decode b_Mo_drop 24 = .ok (.istore_n 3, 1) := by decide +kernel
theorem d_Mo_drop_25 : decode b_Mo_drop 25 = .ok (.iload_n 3, 1) := by decide +kernel
theorem d_Mo_drop_26 : decode b_Mo_drop 26 = .ok (.iconst 3, 1) := by decide +kernel
theorem d_Mo_drop_27 : decode b_Mo_drop 27 = .ok (.if_icmp .ge 29, 3) := by decide +kernel
theorem d_Mo_drop_30 : decode b_Mo_drop 30 = .ok (.aload_n 0, 1) := by decide +kernel
theorem d_Mo_drop_31 : decode b_Mo_drop 31 = .ok (.getfield 19, 3) := by decide +kernel
theorem d_Mo_drop_34 : decode b_Mo_drop 34 = .ok (.iconst 3, 1) := by decide +kernel
theorem d_Mo_drop_35 : decode b_Mo_drop 35 = .ok (.iload_n 1, 1) := by decide +kernel
theorem d_Mo_drop_36 : decode b_Mo_drop 36 = .ok (.imul, 1) := by decide +kernel
theorem d_Mo_drop_37 : decode b_Mo_drop 37 = .ok (.iload_n 3, 1) := by decide +kernel
theorem d_Mo_drop_38 : decode b_Mo_drop 38 = .ok (.iadd, 1) := by decide +kernel
theorem d_Mo_drop_39 : decode b_Mo_drop 39 = .ok (.aload_n 0, 1) := by decide +kernel
theorem d_Mo_drop_40 : decode b_Mo_drop 40 = .ok (.getfield 19, 3) := by decide +kernel
theorem d_Mo_drop_43 : decode b_Mo_drop 43 = .ok (.iconst 3, 1) := by decide +kernel
theorem d_Mo_drop_44 : decode b_Mo_drop 44 = .ok (.iload_n 2, 1) := by decide +kernel
theorem d_Mo_drop_45 : decode b_Mo_drop 45 = .ok (.imul, 1) := by decide +kernel
theorem d_Mo_drop_46 : decode b_Mo_drop 46 = .ok (.iload_n 3, 1) := by decide +kernel
theorem d_Mo_drop_47 : decode b_Mo_drop 47 = .ok (.iadd, 1) := by decide +kernel
theorem d_Mo_drop_48 : decode b_Mo_drop 48 = .ok (.iaload, 1) := by decide +kernel
theorem d_Mo_drop_49 : decode b_Mo_drop 49 = .ok (.iastore, 1) := by decide +kernel
theorem d_Mo_drop_50 : decode b_Mo_drop 50 = .ok (.iinc 3 1, 3) := by decide +kernel
theorem d_Mo_drop_53 : decode b_Mo_drop 53 = .ok (.goto (-28), 3) := by decide +kernel
theorem d_Mo_drop_56 : decode b_Mo_drop 56 = .ok (.iinc 1 1, 3) := by decide +kernel
theorem d_Mo_drop_59 : decode b_Mo_drop 59 = .ok (.iinc 2 1, 3) := by decide +kernel
theorem d_Mo_drop_62 : decode b_Mo_drop 62 = .ok (.goto (-58), 3) := by decide +kernel
theorem d_Mo_drop_65 : decode b_Mo_drop 65 = .ok (.aload_n 0, 1) := by decide +kernel
theorem d_Mo_drop_66 : decode b_Mo_drop 66 = .ok (.dup, 1) := by decide +kernel
theorem d_Mo_drop_67 : decode b_Mo_drop 67 = .ok (.getfield 88, 3) := by decide +kernel
theorem d_Mo_drop_70 : decode b_Mo_drop 70 = .ok (.aload_n 0, 1) := by decide +kernel
theorem d_Mo_drop_71 : decode b_Mo_drop 71 = .ok (.getfield 70, 3) := by decide +kernel
theorem d_Mo_drop_74 : decode b_Mo_drop 74 = .ok (.iload_n 1, 1) := by decide +kernel
theorem d_Mo_drop_75 : decode b_Mo_drop 75 = .ok (.isub, 1) := by decide +kernel
theorem d_Mo_drop_76 : decode b_Mo_drop 76 = .ok (.iadd, 1) := by decide +kernel
theorem d_Mo_drop_77 : decode b_Mo_drop 77 = .ok (.putfield 88, 3) := by decide +kernel
theorem d_Mo_drop_80 : decode b_Mo_drop 80 = .ok (.aload_n 0, 1) := by decide +kernel
theorem d_Mo_drop_81 : decode b_Mo_drop 81 = .ok (.iload_n 1, 1) := by decide +kernel
theorem d_Mo_drop_82 : decode b_Mo_drop 82 = .ok (.putfield 70, 3) := by decide +kernel
theorem d_Mo_drop_85 : decode b_Mo_drop 85 = .ok (.return_, 1) := by decide +kernel
theorem d_Mo_open_0 : decode b_Mo_open 0 = .ok (.iconst 0, 1) := by decide +kernel
theorem d_Mo_open_1 : decode b_Mo_open 1 = .ok (.istore_n 3, 1) := by decide +kernel
theorem d_Mo_open_2 : decode b_Mo_open 2 = .ok (.iconst 0, 1) := by decide +kernel
theorem d_Mo_open_3 : decode b_Mo_open 3 = .ok (.istore 4, 2) := by decide +kernel
theorem d_Mo_open_5 : decode b_Mo_open 5 = .ok (.iload 4, 2) := by decide +kernel
theorem d_Mo_open_7 : decode b_Mo_open 7 = .ok (.iconst 3, 1) := by decide +kernel
theorem d_Mo_open_8 : decode b_Mo_open 8 = .ok (.aload_n 0, 1) := by decide +kernel
theorem d_Mo_open_9 : decode b_Mo_open 9 = .ok (.getfield 70, 3) := by decide +kernel
theorem d_Mo_open_12 : decode b_Mo_open 12 = .ok (.imul, 1) := by decide +kernel
theorem d_Mo_open_13 : decode b_Mo_open 13 = .ok (.if_icmp .ge 80, 3) := by decide +kernel
theorem d_Mo_open_16 : decode b_Mo_open 16 = .ok (.aload_n 0, 1) := by decide +kernel
theorem d_Mo_open_17 : decode b_Mo_open 17 = .ok (.getfield 19, 3) := by decide +kernel
theorem d_Mo_open_20 : decode b_Mo_open 20 = .ok (.iload 4, 2) := by decide +kernel
theorem d_Mo_open_22 : decode b_Mo_open 22 = .ok (.iaload, 1) := by decide +kernel
theorem d_Mo_open_23 : decode b_Mo_open 23 = .ok (.istore 5, 2) := by decide +kernel
theorem d_Mo_open_25 : decode b_Mo_open 25 = .ok (.aload_n 0, 1) := by decide +kernel
theorem d_Mo_open_26 : decode b_Mo_open 26 = .ok (.getfield 19, 3) := by decide +kernel
theorem d_Mo_open_29 : decode b_Mo_open 29 = .ok (.iload 4, 2) := by decide +kernel
theorem d_Mo_open_31 : decode b_Mo_open 31 = .ok (.iconst 3, 1) := by decide +kernel
theorem d_Mo_open_32 : decode b_Mo_open 32 = .ok (.irem, 1) := by decide +kernel
theorem d_Mo_open_33 : decode b_Mo_open 33 = .ok (.iconst 2, 1) := by decide +kernel
theorem d_Mo_open_34 : decode b_Mo_open 34 = .ok (.if_icmp .ne 10, 3) := by decide +kernel
theorem d_Mo_open_37 : decode b_Mo_open 37 = .ok (.iload 4, 2) := by decide +kernel
theorem d_Mo_open_39 : decode b_Mo_open 39 = .ok (.iconst 2, 1) := by decide +kernel
theorem d_Mo_open_40 : decode b_Mo_open 40 = .ok (.isub, 1) := by decide +kernel
theorem d_Mo_open_41 : decode b_Mo_open 41 = .ok (.goto 7, 3) := by decide +kernel
theorem d_Mo_open_44 : decode b_Mo_open 44 = .ok (.iload 4, 2) := by decide +kernel
theorem d_Mo_open_46 : decode b_Mo_open 46 = .ok (.iconst 1, 1) := by decide +kernel
theorem d_Mo_open_47 : decode b_Mo_open 47 = .ok (.iadd, 1) := by decide +kernel
theorem d_Mo_open_48 : decode b_Mo_open 48 = .ok (.iaload, 1) := by decide +kernel
theorem d_Mo_open_49 : decode b_Mo_open 49 = .ok (.istore 6, 2) := by decide +kernel
theorem d_Mo_open_51 : decode b_Mo_open 51 = .ok (.iload_n 3, 1) := by decide +kernel
theorem d_Mo_open_52 : decode b_Mo_open 52 = .ok (.iload 5, 2) := by decide +kernel
theorem d_Mo_open_54 : decode b_Mo_open 54 = .ok (.iload_n 1, 1) := by decide +kernel
theorem d_Mo_open_55 : decode b_Mo_open 55 = .ok (.if_icmp .ne 13, 3) := by decide +kernel
theorem d_Mo_open_58 : decode b_Mo_open 58 = .ok (.iload 6, 2) := by decide +kernel
theorem d_Mo_open_60 : decode b_Mo_open 60 = .ok (.iload_n 2, 1) := by decide +kernel
theorem d_Mo_open_61 : decode b_Mo_open 61 = .ok (.if_icmp .ne 7, 3) := by decide +kernel
theorem d_Mo_open_64 : decode b_Mo_open 64 = .ok (.iconst 1, 1) := by decide +kernel
theorem d_Mo_open_65 : decode b_Mo_open 65 = .ok (.goto 20, 3) := by decide +kernel
theorem d_Mo_open_68 : decode b_Mo_open 68 = .ok (.iload 5, 2) := by decide +kernel
theorem d_Mo_open_70 : decode b_Mo_open 70 = .ok (.iload_n 2, 1) := by decide +kernel
theorem d_Mo_open_71 : decode b_Mo_open 71 = .ok (.if_icmp .ne 13, 3) := by decide +kernel
theorem d_Mo_open_74 : decode b_Mo_open 74 = .ok (.iload 6, 2) := by decide +kernel
theorem d_Mo_open_76 : decode b_Mo_open 76 = .ok (.iload_n 1, 1) := by decide +kernel
theorem d_Mo_open_77 : decode b_Mo_open 77 = .ok (.if_icmp .ne 7, 3) := by decide +kernel
theorem d_Mo_open_80 : decode b_Mo_open 80 = .ok (.iconst (-1), 1) := by decide +kernel
theorem d_Mo_open_81 : decode b_Mo_open 81 = .ok (.goto 4, 3) := by decide +kernel
theorem d_Mo_open_84 : decode b_Mo_open 84 = .ok (.iconst 0, 1) := by decide +kernel
theorem d_Mo_open_85 : decode b_Mo_open 85 = .ok (.iadd, 1) := by decide +kernel
theorem d_Mo_open_86 : decode b_Mo_open 86 = .ok (.istore_n 3, 1) := by decide +kernel
theorem d_Mo_open_87 : decode b_Mo_open 87 = .ok (.iinc 4 1, 3) := by decide +kernel
theorem d_Mo_open_90 : decode b_Mo_open 90 = .ok (.goto (-85), 3) := by decide +kernel
theorem d_Mo_open_93 : decode b_Mo_open 93 = .ok (.iload_n 3, 1) := by decide +kernel
theorem d_Mo_open_94 : decode b_Mo_open 94 = .ok (.ifCond .le 7, 3) := by decide +kernel
theorem d_Mo_open_97 : decode b_Mo_open 97 = .ok (.iload_n 3, 1) := by decide +kernel
theorem d_Mo_open_98 : decode b_Mo_open 98 = .ok (.goto 4, 3) := by decide +kernel
theorem d_Mo_open_101 : decode b_Mo_open 101 = .ok (.iconst 0, 1) := by decide +kernel
theorem d_Mo_open_102 : decode b_Mo_open 102 = .ok (.ireturn, 1) := by decide +kernel
