theorem d_Mn_lowestAtPlaceOf_0 : decode b_Mn_lowestAtPlaceOf 0 = .ok (.iconst 0, 1) := by decide +kernel
theorem d_Mn_lowestAtPlaceOf_1 : decode b_Mn_lowestAtPlaceOf 1 = .ok (.istore_n 2, 1) := by decide +kernel
theorem d_Mn_lowestAtPlaceOf_2 : decode b_Mn_lowestAtPlaceOf 2 = .ok (.iload_n 2, 1) := by decide +kernel
theorem d_Mn_lowestAtPlaceOf_3 : decode b_Mn_lowestAtPlaceOf 3 = .ok (.iload_n 1, 1) := by decide +kernel
theorem d_Mn_lowestAtPlaceOf_4 : decode b_Mn_lowestAtPlaceOf 4 = .ok (.if_icmp .ge 20, 3) := by decide +kernel
theorem d_Mn_lowestAtPlaceOf_7 : decode b_Mn_lowestAtPlaceOf 7 = .ok (.aload_n 0, 1) := by decide +kernel
theorem d_Mn_lowestAtPlaceOf_8 : decode b_Mn_lowestAtPlaceOf 8 = .ok (.iload_n 2, 1) := by decide +kernel
theorem d_Mn_lowestAtPlaceOf_9 : decode b_Mn_lowestAtPlaceOf 9 = .ok (.iload_n 1, 1) := by decide +kernel
theorem d_Mn_lowestAtPlaceOf_10 : decode b_Mn_lowestAtPlaceOf 10 = .ok (.invokevirtual 65, 3) := by decide +kernel
theorem d_Mn_lowestAtPlaceOf_13 : decode b_Mn_lowestAtPlaceOf 13 = .ok (.ifCond .eq 5, 3) := by decide +kernel
theorem d_Mn_lowestAtPlaceOf_16 : decode b_Mn_lowestAtPlaceOf 16 = .ok (.iload_n 2, 1) := by decide +kernel
theorem d_Mn_lowestAtPlaceOf_17 : decode b_Mn_lowestAtPlaceOf 17 = .ok (.ireturn, 1) := by decide +kernel
theorem d_Mn_lowestAtPlaceOf_18 : decode b_Mn_lowestAtPlaceOf 18 = .ok (.iinc 2 1, 3) := by decide +kernel
theorem d_Mn_lowestAtPlaceOf_21 : decode b_Mn_lowestAtPlaceOf 21 = .ok (.goto (-19), 3) := by decide +kernel
theorem d_Mn_lowestAtPlaceOf_24 : decode b_Mn_lowestAtPlaceOf 24 = .ok (.iload_n 1, 1) := by decide +kernel
theorem d_Mn_lowestAtPlaceOf_25 : decode b_Mn_lowestAtPlaceOf 25 = .ok (.ireturn, 1) := by decide +kernel
theorem d_Mn_joinCorners_0 : decode b_Mn_joinCorners 0 = .ok (.iconst 0, 1) := by decide +kernel
theorem d_Mn_joinCorners_1 : decode b_Mn_joinCorners 1 = .ok (.istore_n 2, 1) := by decide +kernel
theorem d_Mn_joinCorners_2 : decode b_Mn_joinCorners 2 = .ok (.iload_n 2, 1) := by decide +kernel
theorem d_Mn_joinCorners_3 : decode b_Mn_joinCorners 3 = .ok (.aload_n 1, 1) := by decide +kernel
theorem d_Mn_joinCorners_4 : decode b_Mn_joinCorners 4 = .ok (.getfield 42, 3) := by decide +kernel
theorem d_Mn_joinCorners_7 : decode b_Mn_joinCorners 7 = .ok (.if_icmp .ge 27, 3) := by decide +kernel
theorem d_Mn_joinCorners_10 : decode b_Mn_joinCorners 10 = .ok (.aload_n 0, 1) := by decide +kernel
theorem d_Mn_joinCorners_11 : decode b_Mn_joinCorners 11 = .ok (.getfield 9, 3) := by decide +kernel
theorem d_Mn_joinCorners_14 : decode b_Mn_joinCorners 14 = .ok (.iload_n 2, 1) := by decide +kernel
theorem d_Mn_joinCorners_15 : decode b_Mn_joinCorners 15 = .ok (.aload_n 1, 1) := by decide +kernel
theorem d_Mn_joinCorners_16 : decode b_Mn_joinCorners 16 = .ok (.iload_n 2, 1) := by decide +kernel
theorem d_Mn_joinCorners_17 : decode b_Mn_joinCorners 17 = .ok (.invokestatic 52, 3) := by decide +kernel
theorem d_Mn_joinCorners_20 : decode b_Mn_joinCorners 20 = .ok (.iastore, 1) := by decide +kernel
theorem d_Mn_joinCorners_21 : decode b_Mn_joinCorners 21 = .ok (.aload_n 0, 1) := by decide +kernel
theorem d_Mn_joinCorners_22 : decode b_Mn_joinCorners 22 = .ok (.getfield 15, 3) := by decide +kernel
theorem d_Mn_joinCorners_25 : decode b_Mn_joinCorners 25 = .ok (.iload_n 2, 1) := by decide +kernel
theorem d_Mn_joinCorners_26 : decode b_Mn_joinCorners 26 = .ok (.iconst 0, 1) := by decide +kernel
theorem d_Mn_joinCorners_27 : decode b_Mn_joinCorners 27 = .ok (.bastore, 1) := by decide +kernel
theorem d_Mn_joinCorners_28 : decode b_Mn_joinCorners 28 = .ok (.iinc 2 1, 3) := by decide +kernel
theorem d_Mn_joinCorners_31 : decode b_Mn_joinCorners 31 = .ok (.goto (-29), 3) := by decide +kernel
theorem d_Mn_joinCorners_34 : decode b_Mn_joinCorners 34 = .ok (.iconst 0, 1) := by decide +kernel
theorem d_Mn_joinCorners_35 : decode b_Mn_joinCorners 35 = .ok (.istore_n 2, 1) := by decide +kernel
theorem d_Mn_joinCorners_36 : decode b_Mn_joinCorners 36 = .ok (.iload_n 2, 1) := by decide +kernel
theorem d_Mn_joinCorners_37 : decode b_Mn_joinCorners 37 = .ok (.iconst 3, 1) := by decide +kernel
theorem d_Mn_joinCorners_38 : decode b_Mn_joinCorners 38 = .ok (.aload_n 1, 1) := by decide +kernel
theorem d_Mn_joinCorners_39 : decode b_Mn_joinCorners 39 = .ok (.getfield 56, 3) := by decide +kernel
theorem d_Mn_joinCorners_42 : decode b_Mn_joinCorners 42 = .ok (.imul, 1) := by decide +kernel
theorem d_Mn_joinCorners_43 : decode b_Mn_joinCorners 43 = .ok (.if_icmp .ge 64, 3) := by decide +kernel
theorem d_Mn_joinCorners_46 : decode b_Mn_joinCorners 46 = .ok (.aload_n 1, 1) := by decide +kernel
theorem d_Mn_joinCorners_47 : decode b_Mn_joinCorners 47 = .ok (.getfield 59, 3) := by decide +kernel
theorem d_Mn_joinCorners_50 : decode b_Mn_joinCorners 50 = .ok (.iload_n 2, 1) := by decide +kernel
theorem d_Mn_joinCorners_51 : decode b_Mn_joinCorners 51 = .ok (.iaload, 1) := by decide +kernel
theorem d_Mn_joinCorners_52 : decode b_Mn_joinCorners 52 = .ok (.istore_n 3, 1) := by decide +kernel
theorem d_Mn_joinCorners_53 : decode b_Mn_joinCorners 53 = .ok (.aload_n 0, 1) := by decide +kernel
theorem d_Mn_joinCorners_54 : decode b_Mn_joinCorners 54 = .ok (.getfield 9, 3) := by decide +kernel
theorem d_Mn_joinCorners_57 : decode b_Mn_joinCorners 57 = .ok (.iload_n 3, 1) := by decide +kernel
theorem d_Mn_joinCorners_58 : decode b_Mn_joinCorners 58 = .ok (.iaload, 1) := by decide +kernel
theorem d_Mn_joinCorners_59 : decode b_Mn_joinCorners 59 = .ok (.iload_n 3, 1) := by decide +kernel
theorem d_Mn_joinCorners_60 : decode b_Mn_joinCorners 60 = .ok (.if_icmp .eq 29, 3) := by decide +kernel
theorem d_Mn_joinCorners_63 : decode b_Mn_joinCorners 63 = .ok (.aload_n 0, 1) := by decide +kernel
theorem d_Mn_joinCorners_64 : decode b_Mn_joinCorners 64 = .ok (.getfield 15, 3) := by decide +kernel
theorem d_Mn_joinCorners_67 : decode b_Mn_joinCorners 67 = .ok (.iload_n 3, 1) := by decide +kernel
theorem d_Mn_joinCorners_68 : decode b_Mn_joinCorners 68 = .ok (.baload, 1) := by decide +kernel
theorem d_Mn_joinCorners_69 : decode b_Mn_joinCorners 69 = .ok (.ifCond .ne 20, 3) := by decide +kernel
theorem d_Mn_joinCorners_72 : decode b_Mn_joinCorners 72 = .ok (.aload_n 0, 1) := by decide +kernel
theorem d_Mn_joinCorners_73 : decode b_Mn_joinCorners 73 = .ok (.getfield 15, 3) := by decide +kernel
theorem d_Mn_joinCorners_76 : decode b_Mn_joinCorners 76 = .ok (.iload_n 3, 1) := by decide +kernel
theorem d_Mn_joinCorners_77 : decode b_Mn_joinCorners 77 = .ok (.iconst 1, 1) := by decide +kernel
theorem d_Mn_joinCorners_78 : decode b_Mn_joinCorners 78 = .ok (.bastore, 1) := by decide +kernel
theorem d_Mn_joinCorners_79 : decode b_Mn_joinCorners 79 = .ok (.aload_n 0, 1) := by decide +kernel
theorem d_Mn_joinCorners_80 : decode b_Mn_joinCorners 80 = .ok (.dup, 1) := by decide +kernel
theorem d_Mn_joinCorners_81 : decode b_Mn_joinCorners 81 = .ok (.getfield 62, 3) := by decide +kernel
theorem d_Mn_joinCorners_84 : decode b_Mn_joinCorners 84 = .ok (.iconst 1, 1) := by decide +kernel
theorem d_Mn_joinCorners_85 : decode b_Mn_joinCorners 85 = .ok (.iadd, 1) := by decide +kernel
theorem d_Mn_joinCorners_86 : decode b_Mn_joinCorners 86 = .ok (.putfield 62, 3) := by decide +kernel
theorem d_Mn_joinCorners_89 : decode b_Mn_joinCorners 89 = .ok (.aload_n 1, 1) := by decide +kernel
theorem d_Mn_joinCorners_90 : decode b_Mn_joinCorners 90 = .ok (.getfield 59, 3) := by decide +kernel
theorem d_Mn_joinCorners_93 : decode b_Mn_joinCorners 93 = .ok (.iload_n 2, 1) := by decide +kernel
theorem d_Mn_joinCorners_94 : decode b_Mn_joinCorners 94 = .ok (.aload_n 0, 1) := by decide +kernel
theorem d_Mn_joinCorners_95 : decode b_Mn_joinCorners 95 = .ok (.getfield 9, 3) := by decide +kernel
theorem d_Mn_joinCorners_98 : decode b_Mn_joinCorners 98 = .ok (.iload_n 3, 1) := by decide +kernel
theorem d_Mn_joinCorners_99 : decode b_Mn_joinCorners 99 = .ok (.iaload, 1) := by decide +kernel
theorem d_Mn_joinCorners_100 : decode b_Mn_joinCorners 100 = .ok (.iastore, 1) := by decide +kernel
theorem d_Mn_joinCorners_101 : decode b_Mn_joinCorners 101 = .ok (.iinc 2 1, 3) := by decide +kernel
theorem d_Mn_joinCorners_104 : decode b_Mn_joinCorners 104 = .ok (.goto (-68), 3) := by decide +kernel
theorem d_Mn_joinCorners_107 : decode b_Mn_joinCorners 107 = .ok (.return_, 1) := by decide +kernel
theorem d_Mn_dropTriangles_0 : decode b_Mn_dropTriangles 0 = .ok (.iconst 0, 1) := by decide +kernel
theorem d_Mn_dropTriangles_1 : decode b_Mn_dropTriangles 1 = .ok (.istore_n 2, 1) := by decide +kernel
theorem d_Mn_dropTriangles_2 : decode b_Mn_dropTriangles 2 = .ok (.iconst 0, 1) := by decide +kernel
theorem d_Mn_dropTriangles_3 : decode b_Mn_dropTriangles 3 = .ok (.istore_n 3, 1) := by decide +kernel
theorem d_Mn_dropTriangles_4 : decode b_Mn_dropTriangles 4 = .ok (.iload_n 3, 1) := by decide +kernel
theorem d_Mn_dropTriangles_5 : decode b_Mn_dropTriangles 5 = .ok (.aload_n 1, 1) := by decide +kernel
theorem d_Mn_dropTriangles_6 : decode b_Mn_dropTriangles 6 = .ok (.getfield 56, 3) := by decide +kernel
theorem d_Mn_dropTriangles_9 : decode b_Mn_dropTriangles 9 = .ok (.if_icmp .ge 70, 3) := by decide +kernel
theorem d_Mn_dropTriangles_12 : decode b_Mn_dropTriangles 12 = .ok (.aload_n 1, 1) := by decide +kernel
theorem d_Mn_dropTriangles_13 : decode b_Mn_dropTriangles 13 = .ok (.getfield 59, 3) := by decide +kernel
theorem d_Mn_dropTriangles_16 : decode b_Mn_dropTriangles 16 = .ok (.iconst 3, 1) := by decide +kernel
theorem d_Mn_dropTriangles_17 : decode b_Mn_dropTriangles 17 = .ok (.iload_n 3, 1) := by decide +kernel
theorem d_Mn_dropTriangles_18 : decode b_Mn_dropTriangles 18 = .ok (.imul, 1) := by decide +kernel
theorem d_Mn_dropTriangles_19 : decode b_Mn_dropTriangles 19 = .ok (.iaload, 1) := by decide +kernel
theorem d_Mn_dropTriangles_20 : decode b_Mn_dropTriangles 20 = .ok (.istore 4, 2) := by decide +kernel
theorem d_Mn_dropTriangles_22 : decode b_Mn_dropTriangles 22 = .ok (.aload_n 1, 1) := by decide +kernel
theorem d_Mn_dropTriangles_23 : decode b_Mn_dropTriangles 23 = .ok (.getfield 59, 3) := by decide +kernel
theorem d_Mn_dropTriangles_26 : decode b_Mn_dropTriangles 26 = .ok (.iconst 3, 1) := by decide +kernel
theorem d_Mn_dropTriangles_27 : decode b_Mn_dropTriangles 27 = .ok (.iload_n 3, 1) := by decide +kernel
theorem d_Mn_dropTriangles_28 : decode b_Mn_dropTriangles 28 = .ok (.imul, 1) := by decide +kernel
theorem d_Mn_dropTriangles_29 : decode b_Mn_dropTriangles 29 = .ok (.iconst 1, 1) := by decide +kernel
theorem d_Mn_dropTriangles_30 : decode b_Mn_dropTriangles 30 = .ok (.iadd, 1) := by decide +kernel
theorem d_Mn_dropTriangles_31 : decode b_Mn_dropTriangles 31 = .ok (.iaload, 1) := by decide +kernel
theorem d_Mn_dropTriangles_32 : decode b_Mn_dropTriangles 32 = .ok (.istore 5, 2) := by decide +kernel
theorem d_Mn_dropTriangles_34 : decode b_Mn_dropTriangles 34 = .ok (.aload_n 1, 1) := by decide +kernel
theorem d_Mn_dropTriangles_35 : decode b_Mn_dropTriangles 35 = .ok (.getfield 59, 3) := by decide +kernel
theorem d_Mn_dropTriangles_38 : decode b_Mn_dropTriangles 38 = .ok (.iconst 3, 1) := by decide +kernel
theorem d_Mn_dropTriangles_39 : decode b_Mn_dropTriangles 39 = .ok (.iload_n 3, 1) := by decide +kernel
theorem d_Mn_dropTriangles_40 : decode b_Mn_dropTriangles 40 = .ok (.imul, 1) := by decide +kernel
theorem d_Mn_dropTriangles_41 : decode b_Mn_dropTriangles 41 = .ok (.iconst 2, 1) := by decide +kernel
theorem d_Mn_dropTriangles_42 : decode b_Mn_dropTriangles 42 = .ok (.iadd, 1) := by decide +kernel
theorem d_Mn_dropTriangles_43 : decode b_Mn_dropTriangles 43 = .ok (.iaload, 1) := by decide +kernel
theorem d_Mn_dropTriangles_44 : decode b_Mn_dropTriangles 44 = .ok (.istore 6, 2) := by decide +kernel
theorem d_Mn_dropTriangles_46 : decode b_Mn_dropTriangles 46 = .ok (.aload_n 1, 1) := by decide +kernel
theorem d_Mn_dropTriangles_47 : decode b_Mn_dropTriangles 47 = .ok (.iload 4, 2) := by decide +kernel
theorem d_Mn_dropTriangles_49 : decode b_Mn_dropTriangles 49 = .ok (.iload 5, 2) := by decide +kernel
theorem d_Mn_dropTriangles_51 : decode b_Mn_dropTriangles 51 = .ok (.iload 6, 2) := by decide +kernel
theorem d_Mn_dropTriangles_53 : decode b_Mn_dropTriangles 53 = .ok (.invokevirtual 69, 3) := by decide +kernel
theorem d_Mn_dropTriangles_56 : decode b_Mn_dropTriangles 56 = .ok (.ifCond .ne 17, 3) := by decide +kernel
theorem d_Mn_dropTriangles_59 : decode b_Mn_dropTriangles 59 = .ok (.aload_n 1, 1) := by decide +kernel
theorem d_Mn_dropTriangles_60 : decode b_Mn_dropTriangles 60 = .ok (.iload_n 2, 1) := by decide +kernel
theorem d_Mn_dropTriangles_61 : decode b_Mn_dropTriangles 61 = .ok (.iload 4, 2) := by decide +kernel
theorem d_Mn_dropTriangles_63 : decode b_Mn_dropTriangles 63 = .ok (.iload 5, 2) := by decide +kernel
theorem d_Mn_dropTriangles_65 : decode b_Mn_dropTriangles 65 = .ok (.iload 6, 2) := by decide +kernel
theorem d_Mn_dropTriangles_67 : decode b_Mn_dropTriangles 67 = .ok (.invokevirtual 73, 3) := by decide +kernel
theorem d_Mn_dropTriangles_70 : decode b_Mn_dropTriangles 70 = .ok (.iinc 2 1, 3) := by decide +kernel
theorem d_Mn_dropTriangles_73 : decode b_Mn_dropTriangles 73 = .ok (.iinc 3 1, 3) := by decide +kernel
theorem d_Mn_dropTriangles_76 : decode b_Mn_dropTriangles 76 = .ok (.goto (-72), 3) := by decide +kernel
theorem d_Mn_dropTriangles_79 : decode b_Mn_dropTriangles 79 = .ok (.aload_n 0, 1) := by decide +kernel
theorem d_Mn_dropTriangles_80 : decode b_Mn_dropTriangles 80 = .ok (.dup, 1) := by decide +kernel
theorem d_Mn_dropTriangles_81 : decode b_Mn_dropTriangles 81 = .ok (.getfield 77, 3) := by decide +kernel
theorem d_Mn_dropTriangles_84 : decode b_Mn_dropTriangles 84 = .ok (.aload_n 1, 1) := by decide +kernel
theorem d_Mn_dropTriangles_85 : decode b_Mn_dropTriangles 85 = .ok (.getfield 56, 3) := by decide +kernel
theorem d_Mn_dropTriangles_88 : decode b_Mn_dropTriangles 88 = .ok (.iload_n 2, 1) := by decide +kernel
theorem d_Mn_dropTriangles_89 : decode b_Mn_dropTriangles 89 = .ok (.isub, 1) := by decide +kernel
theorem d_Mn_dropTriangles_90 : decode b_Mn_dropTriangles 90 = .ok (.iadd, 1) := by decide +kernel
theorem d_Mn_dropTriangles_91 : decode b_Mn_dropTriangles 91 = .ok (.putfield 77, 3) := by decide +kernel
theorem d_Mn_dropTriangles_94 : decode b_Mn_dropTriangles 94 = .ok (.aload_n 1, 1) := by decide +kernel
theorem d_Mn_dropTriangles_95 : decode b_Mn_dropTriangles 95 = .ok (.iload_n 2, 1) := by decide +kernel
theorem d_Mn_dropTriangles_96 : decode b_Mn_dropTriangles 96 = .ok (.putfield 56, 3) := by decide +kernel
theorem d_Mn_dropTriangles_99 : decode b_Mn_dropTriangles 99 = .ok (.return_, 1) := by decide +kernel
theorem d_Mn_addEdge_0 : decode b_Mn_addEdge 0 = .ok (.aload_n 0, 1) := by decide +kernel
theorem d_Mn_addEdge_1 : decode b_Mn_addEdge 1 = .ok (.getfield 19, 3) := by decide +kernel
theorem d_Mn_addEdge_4 : decode b_Mn_addEdge 4 = .ok (.iload_n 1, 1) := by decide +kernel
theorem d_Mn_addEdge_5 : decode b_Mn_addEdge 5 = .ok (.bipush 80, 2) := by decide +kernel
theorem d_Mn_addEdge_7 : decode b_Mn_addEdge 7 = .ok (.imul, 1) := by decide +kernel
theorem d_Mn_addEdge_8 : decode b_Mn_addEdge 8 = .ok (.iload_n 2, 1) := by decide +kernel
theorem d_Mn_addEdge_9 : decode b_Mn_addEdge 9 = .ok (.iadd, 1) := by decide +kernel
theorem d_Mn_addEdge_10 : decode b_Mn_addEdge 10 = .ok (.iaload, 1) := by decide +kernel
theorem d_Mn_addEdge_11 : decode b_Mn_addEdge 11 = .ok (.ifCond .lt 16, 3) := by decide +kernel
theorem d_Mn_addEdge_14 : decode b_Mn_addEdge 14 = .ok (.aload_n 0, 1) := by decide +kernel
theorem d_Mn_addEdge_15 : decode b_Mn_addEdge 15 = .ok (.getfield 22, 3) := by decide +kernel
theorem d_Mn_addEdge_18 : decode b_Mn_addEdge 18 = .ok (.iload_n 1, 1) := by decide +kernel
theorem d_Mn_addEdge_19 : decode b_Mn_addEdge 19 = .ok (.dup2, 1) := by decide +kernel
theorem d_Mn_addEdge_20 : decode b_Mn_addEdge 20 = .ok (.iaload, 1) := by decide +kernel
theorem d_Mn_addEdge_21 : decode b_Mn_addEdge 21 = .ok (.iconst 1, 1) := by decide +kernel
theorem d_Mn_addEdge_22 : decode b_Mn_addEdge 22 = .ok (.iadd, 1) := by decide +kernel
theorem d_Mn_addEdge_23 : decode b_Mn_addEdge 23 = .ok (.iastore, 1) := by decide +kernel
theorem d_Mn_addEdge_24 : decode b_Mn_addEdge 24 = .ok (.goto 13, 3) := by decide +kernel
theorem d_Mn_addEdge_27 : decode b_Mn_addEdge 27 = .ok (.aload_n 0, 1) := by decide +kernel
theorem d_Mn_addEdge_28 : decode b_Mn_addEdge 28 = .ok (.getfield 22, 3) := by decide +kernel
theorem d_Mn_addEdge_31 : decode b_Mn_addEdge 31 = .ok (.iload_n 2, 1) := by decide +kernel
theorem d_Mn_addEdge_32 : decode b_Mn_addEdge 32 = .ok (.dup2, 1) := by decide +kernel
theorem d_Mn_addEdge_33 : decode b_Mn_addEdge 33 = .ok (.iaload, 1) := by decide +kernel
theorem d_Mn_addEdge_34 : decode b_Mn_addEdge 34 = .ok (.iconst 1, 1) := by decide +kernel
theorem d_Mn_addEdge_35 : decode b_Mn_addEdge 35 = .ok (.isub, 1) := by decide +kernel
theorem d_Mn_addEdge_36 : decode b_Mn_addEdge 36 = .ok (.iastore, 1) := by decide +kernel
theorem d_Mn_addEdge_37 : decode b_Mn_addEdge 37 = .ok (.aload_n 0, 1) := by decide +kernel
theorem d_Mn_addEdge_38 : decode b_Mn_addEdge 38 = .ok (.getfield 19, 3) := by decide +kernel
theorem d_Mn_addEdge_41 : decode b_Mn_addEdge 41 = .ok (.iload_n 1, 1) := by decide +kernel
theorem d_Mn_addEdge_42 : decode b_Mn_addEdge 42 = .ok (.bipush 80, 2) := by decide +kernel
theorem d_Mn_addEdge_44 : decode b_Mn_addEdge 44 = .ok (.imul, 1) := by decide +kernel
theorem d_Mn_addEdge_45 : decode b_Mn_addEdge 45 = .ok (.iload_n 2, 1) := by decide +kernel
theorem d_Mn_addEdge_46 : decode b_Mn_addEdge 46 = .ok (.iadd, 1) := by decide +kernel
theorem d_Mn_addEdge_47 : decode b_Mn_addEdge 47 = .ok (.dup2, 1) := by decide +kernel
theorem d_Mn_addEdge_48 : decode b_Mn_addEdge 48 = .ok (.iaload, 1) := by decide +kernel
theorem d_Mn_addEdge_49 : decode b_Mn_addEdge 49 = .ok (.iconst 1, 1) := by decide +kernel
theorem d_Mn_addEdge_50 : decode b_Mn_addEdge 50 = .ok (.iadd, 1) := by decide +kernel
theorem d_Mn_addEdge_51 : decode b_Mn_addEdge 51 = .ok (.iastore, 1) := by decide +kernel
theorem d_Mn_addEdge_52 : decode b_Mn_addEdge 52 = .ok (.aload_n 0, 1) := by decide +kernel
theorem d_Mn_addEdge_53 : decode b_Mn_addEdge 53 = .ok (.getfield 19, 3) := by decide +kernel
theorem d_Mn_addEdge_56 : decode b_Mn_addEdge 56 = .ok (.iload_n 2, 1) := by decide +kernel
theorem d_Mn_addEdge_57 : decode b_Mn_addEdge 57 = .ok (.bipush 80, 2) := by decide +kernel
theorem d_Mn_addEdge_59 : decode b_Mn_addEdge 59 = .ok (.imul, 1) := by decide +kernel
theorem d_Mn_addEdge_60 : decode b_Mn_addEdge 60 = .ok (.iload_n 1, 1) := by decide +kernel
theorem d_Mn_addEdge_61 : decode b_Mn_addEdge 61 = .ok (.iadd, 1) := by decide +kernel
theorem d_Mn_addEdge_62 : decode b_Mn_addEdge 62 = .ok (.dup2, 1) := by decide +kernel
theorem d_Mn_addEdge_63 : decode b_Mn_addEdge 63 = .ok (.iaload, 1) := by decide +kernel
theorem d_Mn_addEdge_64 : decode b_Mn_addEdge 64 = .ok (.iconst 1, 1) := by decide +kernel
theorem d_Mn_addEdge_65 : decode b_Mn_addEdge 65 = .ok (.isub, 1) := by decide +kernel
theorem d_Mn_addEdge_66 : decode b_Mn_addEdge 66 = .ok (.iastore, 1) := by decide +kernel
theorem d_Mn_addEdge_67 : decode b_Mn_addEdge 67 = .ok (.return_, 1) := by decide +kernel
theorem d_Mn_addEdgesOf_0 : decode b_Mn_addEdgesOf 0 = .ok (.aload_n 1, 1) := by decide +kernel
theorem d_Mn_addEdgesOf_1 : decode b_Mn_addEdgesOf 1 = .ok (.getfield 59, 3) := by decide +kernel
theorem d_Mn_addEdgesOf_4 : decode b_Mn_addEdgesOf 4 = .ok (.iconst 3, 1) := by decide +kernel
theorem d_Mn_addEdgesOf_5 : decode b_Mn_addEdgesOf 5 = .ok (.iload_n 2, 1) := by decide +kernel
theorem d_Mn_addEdgesOf_6 : decode b_Mn_addEdgesOf 6 = .ok (.imul, 1) := by decide +kernel
theorem d_Mn_addEdgesOf_7 : decode b_Mn_addEdgesOf 7 = .ok (.iaload, 1) := by decide +kernel
theorem d_Mn_addEdgesOf_8 : decode b_Mn_addEdgesOf 8 = .ok (.istore_n 3, 1) := by decide +kernel
theorem d_Mn_addEdgesOf_9 : decode b_Mn_addEdgesOf 9 = .ok (.aload_n 1, 1) := by decide +kernel
theorem d_Mn_addEdgesOf_10 : decode b_Mn_addEdgesOf 10 = .ok (.getfield 59, 3) := by decide +kernel
theorem d_Mn_addEdgesOf_13 : decode b_Mn_addEdgesOf 13 = .ok (.iconst 3, 1) := by decide +kernel
theorem d_Mn_addEdgesOf_14 : decode b_Mn_addEdgesOf 14 = .ok (.iload_n 2, 1) := by decide +kernel
theorem d_Mn_addEdgesOf_15 : decode b_Mn_addEdgesOf 15 = .ok (.imul, 1) := by decide +kernel
theorem d_Mn_addEdgesOf_16 : decode b_Mn_addEdgesOf 16 = .ok (.iconst 1, 1) := by decide +kernel
theorem d_Mn_addEdgesOf_17 : decode b_Mn_addEdgesOf 17 = .ok (.iadd, 1) := by decide +kernel
theorem d_Mn_addEdgesOf_18 : decode b_Mn_addEdgesOf 18 = .ok (.iaload, 1) := by decide +kernel
theorem d_Mn_addEdgesOf_19 : decode b_Mn_addEdgesOf 19 = .ok (.istore 4, 2) := by decide +kernel
theorem d_Mn_addEdgesOf_21 : decode b_Mn_addEdgesOf 21 = .ok (.aload_n 1, 1) := by decide +kernel
theorem d_Mn_addEdgesOf_22 : decode b_Mn_addEdgesOf 22 = .ok (.getfield 59, 3) := by decide +kernel
theorem d_Mn_addEdgesOf_25 : decode b_Mn_addEdgesOf 25 = .ok (.iconst 3, 1) := by decide +kernel
theorem d_Mn_addEdgesOf_26 : decode b_Mn_addEdgesOf 26 = .ok (.iload_n 2, 1) := by decide +kernel
theorem d_Mn_addEdgesOf_27 : decode b_Mn_addEdgesOf 27 = .ok (.imul, 1) := by decide +kernel
theorem d_Mn_addEdgesOf_28 : decode b_Mn_addEdgesOf 28 = .ok (.iconst 2, 1) := by decide +kernel
theorem d_Mn_addEdgesOf_29 : decode b_Mn_addEdgesOf 29 = .ok (.iadd, 1) := by decide +kernel
theorem d_Mn_addEdgesOf_30 : decode b_Mn_addEdgesOf 30 = .ok (.iaload, 1) := by decide +kernel
theorem d_Mn_addEdgesOf_31 : decode b_Mn_addEdgesOf 31 = .ok (.istore 5, 2) := by decide +kernel
theorem d_Mn_addEdgesOf_33 : decode b_Mn_addEdgesOf 33 = .ok (.aload_n 0, 1) := by decide +kernel
theorem d_Mn_addEdgesOf_34 : decode b_Mn_addEdgesOf 34 = .ok (.iload_n 3, 1) := by decide +kernel
theorem d_Mn_addEdgesOf_35 : decode b_Mn_addEdgesOf 35 = .ok (.iload 4, 2) := by decide +kernel
theorem d_Mn_addEdgesOf_37 : decode b_Mn_addEdgesOf 37 = .ok (.invokevirtual 90, 3) := by decide +kernel
theorem d_Mn_addEdgesOf_40 : decode b_Mn_addEdgesOf 40 = .ok (.aload_n 0, 1) := by decide +kernel
theorem d_Mn_addEdgesOf_41 : decode b_Mn_addEdgesOf 41 = .ok (.iload 4, 2) := by decide +kernel
theorem d_Mn_addEdgesOf_43 : decode b_Mn_addEdgesOf 43 = .ok (.iload 5, 2) := by decide +kernel
theorem d_Mn_addEdgesOf_45 : decode b_Mn_addEdgesOf 45 = .ok (.invokevirtual 90, 3) := by decide +kernel
theorem d_Mn_addEdgesOf_48 : decode b_Mn_addEdgesOf 48 = .ok (.aload_n 0, 1) := by decide +kernel
theorem d_Mn_addEdgesOf_49 : decode b_Mn_addEdgesOf 49 = .ok (.iload 5, 2) := by decide +kernel
theorem d_Mn_addEdgesOf_51 : decode b_Mn_addEdgesOf 51 = .ok (.iload_n 3, 1) := by decide +kernel
theorem d_Mn_addEdgesOf_52 : decode b_Mn_addEdgesOf 52 = .ok (.invokevirtual 90, 3) := by decide +kernel
theorem d_Mn_addEdgesOf_55 : decode b_Mn_addEdgesOf 55 = .ok (.return_, 1) := by decide +kernel
theorem d_Mn_weighEdges_0 : decode b_Mn_weighEdges 0 = .ok (.aload_n 0, 1) := by decide +kernel
theorem d_Mn_weighEdges_1 : decode b_Mn_weighEdges 1 = .ok (.getfield 19, 3) := by decide +kernel
theorem d_Mn_weighEdges_4 : decode b_Mn_weighEdges 4 = .ok (.iconst 0, 1) := by decide +kernel
theorem d_Mn_weighEdges_5 : decode b_Mn_weighEdges 5 = .ok (.invokestatic 80, 3) := by decide +kernel
theorem d_Mn_weighEdges_8 : decode b_Mn_weighEdges 8 = .ok (.aload_n 0, 1) := by decide +kernel
theorem d_Mn_weighEdges_9 : decode b_Mn_weighEdges 9 = .ok (.getfield 22, 3) := by decide +kernel
theorem d_Mn_weighEdges_12 : decode b_Mn_weighEdges 12 = .ok (.iconst 0, 1) := by decide +kernel
theorem d_Mn_weighEdges_13 : decode b_Mn_weighEdges 13 = .ok (.invokestatic 80, 3) := by decide +kernel
theorem d_Mn_weighEdges_16 : decode b_Mn_weighEdges 16 = .ok (.iconst 0, 1) := by decide +kernel
theorem d_Mn_weighEdges_17 : decode b_Mn_weighEdges 17 = .ok (.istore_n 2, 1) := by decide +kernel
theorem d_Mn_weighEdges_18 : decode b_Mn_weighEdges 18 = .ok (.iload_n 2, 1) := by decide +kernel
theorem d_Mn_weighEdges_19 : decode b_Mn_weighEdges 19 = .ok (.aload_n 1, 1) := by decide +kernel
theorem d_Mn_weighEdges_20 : decode b_Mn_weighEdges 20 = .ok (.getfield 56, 3) := by decide +kernel
theorem d_Mn_weighEdges_23 : decode b_Mn_weighEdges 23 = .ok (.if_icmp .ge 15, 3) := by decide +kernel
theorem d_Mn_weighEdges_26 : decode b_Mn_weighEdges 26 = .ok (.aload_n 0, 1) := by decide +kernel
theorem d_Mn_weighEdges_27 : decode b_Mn_weighEdges 27 = .ok (.aload_n 1, 1) := by decide +kernel
theorem d_Mn_weighEdges_28 : decode b_Mn_weighEdges 28 = .ok (.iload_n 2, 1) := by decide +kernel
theorem d_Mn_weighEdges_29 : decode b_Mn_weighEdges 29 = .ok (.invokevirtual 86, 3) := by decide +kernel
theorem d_Mn_weighEdges_32 : decode b_Mn_weighEdges 32 = .ok (.iinc 2 1, 3) := by decide +kernel
theorem d_Mn_weighEdges_35 : decode b_Mn_weighEdges 35 = .ok (.goto (-17), 3) := by decide +kernel
theorem d_Mn_weighEdges_38 : decode b_Mn_weighEdges 38 = .ok (.return_, 1) := by decide +kernel
theorem d_Mn_isInHole_0 : decode b_Mn_isInHole 0 = .ok (.iconst 0, 1) := by decide +kernel
theorem d_Mn_isInHole_1 : decode b_Mn_isInHole 1 = .ok (.istore_n 3, 1) := by decide +kernel
theorem d_Mn_isInHole_2 : decode b_Mn_isInHole 2 = .ok (.iload_n 3, 1) := by decide +kernel
theorem d_Mn_isInHole_3 : decode b_Mn_isInHole 3 = .ok (.iload_n 2, 1) := by decide +kernel
theorem d_Mn_isInHole_4 : decode b_Mn_isInHole 4 = .ok (.if_icmp .ge 21, 3) := by decide +kernel
theorem d_Mn_isInHole_7 : decode b_Mn_isInHole 7 = .ok (.aload_n 0, 1) := by decide +kernel
theorem d_Mn_isInHole_8 : decode b_Mn_isInHole 8 = .ok (.getfield 25, 3) := by decide +kernel
theorem d_Mn_isInHole_11 : decode b_Mn_isInHole 11 = .ok (.iload_n 3, 1) := by decide +kernel
theorem d_Mn_isInHole_12 : decode b_Mn_isInHole 12 = .ok (.iaload, 1) := by decide +kernel
theorem d_Mn_isInHole_13 : decode b_Mn_isInHole 13 = .ok (.iload_n 1, 1) := by decide +kernel
theorem d_Mn_isInHole_14 : decode b_Mn_isInHole 14 = .ok (.if_icmp .ne 5, 3) := by decide +kernel
theorem d_Mn_isInHole_17 : decode b_Mn_isInHole 17 = .ok (.iconst 1, 1) := by decide +kernel
theorem d_Mn_isInHole_18 : decode b_Mn_isInHole 18 = .ok (.ireturn, 1) := by decide +kernel
theorem d_Mn_isInHole_19 : decode b_Mn_isInHole 19 = .ok (.iinc 3 1, 3) := by decide +kernel
theorem d_Mn_isInHole_22 : decode b_Mn_isInHole 22 = .ok (.goto (-20), 3) := by decide +kernel
theorem d_Mn_isInHole_25 : decode b_Mn_isInHole 25 = .ok (.iconst 0, 1) := by decide +kernel
theorem d_Mn_isInHole_26 : decode b_Mn_isInHole 26 = .ok (.ireturn, 1) := by decide +kernel
theorem d_Mn_nextCorner_0 : decode b_Mn_nextCorner 0 = .ok (.iconst 0, 1) := by decide +kernel
theorem d_Mn_nextCorner_1 : decode b_Mn_nextCorner 1 = .ok (.istore_n 3, 1) := by decide +kernel
theorem d_Mn_nextCorner_2 : decode b_Mn_nextCorner 2 = .ok (.iload_n 3, 1) := by decide +kernel
theorem d_Mn_nextCorner_3 : decode b_Mn_nextCorner 3 = .ok (.iload_n 2, 1) := by decide +kernel
theorem d_Mn_nextCorner_4 : decode b_Mn_nextCorner 4 = .ok (.if_icmp .ge 25, 3) := by decide +kernel
theorem d_Mn_nextCorner_7 : decode b_Mn_nextCorner 7 = .ok (.aload_n 0, 1) := by decide +kernel
theorem d_Mn_nextCorner_8 : decode b_Mn_nextCorner 8 = .ok (.getfield 19, 3) := by decide +kernel
theorem d_Mn_nextCorner_11 : decode b_Mn_nextCorner 11 = .ok (.iload_n 1, 1) := by decide +kernel
theorem d_Mn_nextCorner_12 : decode b_Mn_nextCorner 12 = .ok (.bipush 80, 2) := by decide +kernel
theorem d_Mn_nextCorner_14 : decode b_Mn_nextCorner 14 = .ok (.imul, 1) := by decide +kernel
theorem d_Mn_nextCorner_15 : decode b_Mn_nextCorner 15 = .ok (.iload_n 3, 1) := by decide +kernel
theorem d_Mn_nextCorner_16 : decode b_Mn_nextCorner 16 = .ok (.iadd, 1) := by decide +kernel
theorem d_Mn_nextCorner_17 : decode b_Mn_nextCorner 17 = .ok (.iaload, 1) := by decide +kernel
theorem d_Mn_nextCorner_18 : decode b_Mn_nextCorner 18 = .ok (.ifCond .le 5, 3) := by decide +kernel
theorem d_Mn_nextCorner_21 : decode b_Mn_nextCorner 21 = .ok (.iload_n 3, 1) := by decide +kernel
theorem d_Mn_nextCorner_22 : decode b_Mn_nextCorner 22 = .ok (.ireturn, 1) := by decide +kernel
theorem d_Mn_nextCorner_23 : decode b_Mn_nextCorner 23 = .ok (.iinc 3 1, 3) := by decide +kernel
theorem d_Mn_nextCorner_26 : decode b_Mn_nextCorner 26 = .ok (.goto (-24), 3) := by decide +kernel
theorem d_Mn_nextCorner_29 : decode b_Mn_nextCorner 29 = .ok (.iload_n 1, 1) := by decide +kernel
theorem d_Mn_nextCorner_30 : decode b_Mn_nextCorner 30 = .ok (.ireturn, 1) := by decide +kernel
theorem d_Mn_walkHole_0 : decode b_Mn_walkHole 0 = .ok (.iload_n 1, 1) := by decide +kernel
theorem d_Mn_walkHole_1 : decode b_Mn_walkHole 1 = .ok (.istore_n 3, 1) := by decide +kernel
theorem d_Mn_walkHole_2 : decode b_Mn_walkHole 2 = .ok (.iconst 0, 1) := by decide +kernel
theorem d_Mn_walkHole_3 : decode b_Mn_walkHole 3 = .ok (.istore 4, 2) := by decide +kernel
theorem d_Mn_walkHole_5 : decode b_Mn_walkHole 5 = .ok (.iload 4, 2) := by decide +kernel
theorem d_Mn_walkHole_7 : decode b_Mn_walkHole 7 = .ok (.bipush 16, 2) := by decide +kernel
theorem d_Mn_walkHole_9 : decode b_Mn_walkHole 9 = .ok (.if_icmp .ge 56, 3) := by decide +kernel
theorem d_Mn_walkHole_12 : decode b_Mn_walkHole 12 = .ok (.aload_n 0, 1) := by decide +kernel
theorem d_Mn_walkHole_13 : decode b_Mn_walkHole 13 = .ok (.getfield 22, 3) := by decide +kernel
theorem d_Mn_walkHole_16 : decode b_Mn_walkHole 16 = .ok (.iload_n 3, 1) := by decide +kernel
theorem d_Mn_walkHole_17 : decode b_Mn_walkHole 17 = .ok (.iaload, 1) := by decide +kernel
theorem d_Mn_walkHole_18 : decode b_Mn_walkHole 18 = .ok (.iconst 1, 1) := by decide +kernel
theorem d_Mn_walkHole_19 : decode b_Mn_walkHole 19 = .ok (.if_icmp .ne 13, 3) := by decide +kernel
theorem d_Mn_walkHole_22 : decode b_Mn_walkHole 22 = .ok (.aload_n 0, 1) := by decide +kernel
theorem d_Mn_walkHole_23 : decode b_Mn_walkHole 23 = .ok (.iload_n 3, 1) := by decide +kernel
theorem d_Mn_walkHole_24 : decode b_Mn_walkHole 24 = .ok (.iload 4, 2) := by decide +kernel
theorem d_Mn_walkHole_26 : decode b_Mn_walkHole 26 = .ok (.invokevirtual 101, 3) := by decide +kernel
theorem d_Mn_walkHole_29 : decode b_Mn_walkHole 29 = .ok (.ifCond .eq 5, 3) := by decide +kernel
theorem d_Mn_walkHole_32 : decode b_Mn_walkHole 32 = .ok (.iconst 0, 1) := by decide +kernel
theorem d_Mn_walkHole_33 : decode b_Mn_walkHole 33 = .ok (.ireturn, 1) := by decide +kernel
theorem d_Mn_walkHole_34 : decode b_Mn_walkHole 34 = .ok (.aload_n 0, 1) := by decide +kernel
theorem d_Mn_walkHole_35 : decode b_Mn_walkHole 35 = .ok (.getfield 25, 3) := by decide +kernel
theorem d_Mn_walkHole_38 : decode b_Mn_walkHole 38 = .ok (.iload 4, 2) := by decide +kernel
theorem d_Mn_walkHole_40 : decode b_Mn_walkHole 40 = .ok (.iload_n 3, 1) := by decide +kernel
theorem d_Mn_walkHole_41 : decode b_Mn_walkHole 41 = .ok (.iastore, 1) := by decide +kernel
theorem d_Mn_walkHole_42 : decode b_Mn_walkHole 42 = .ok (.aload_n 0, 1) := by decide +kernel
theorem d_Mn_walkHole_43 : decode b_Mn_walkHole 43 = .ok (.iload_n 3, 1) := by decide +kernel
theorem d_Mn_walkHole_44 : decode b_Mn_walkHole 44 = .ok (.iload_n 2, 1) := by decide +kernel
theorem d_Mn_walkHole_45 : decode b_Mn_walkHole 45 = .ok (.invokevirtual 104, 3) := by decide +kernel
theorem d_Mn_walkHole_48 : decode b_Mn_walkHole 48 = .ok (.istore_n 3, 1) := by decide +kernel
theorem d_Mn_walkHole_49 : decode b_Mn_walkHole 49 = .ok (.iload_n 3, 1) := by decide +kernel
theorem d_Mn_walkHole_50 : decode b_Mn_walkHole 50 = .ok (.iload_n 1, 1) := by decide +kernel
theorem d_Mn_walkHole_51 : decode b_Mn_walkHole 51 = .ok (.if_icmp .ne 8, 3) := by decide +kernel
theorem d_Mn_walkHole_54 : decode b_Mn_walkHole 54 = .ok (.iload 4, 2) := by decide +kernel
theorem d_Mn_walkHole_56 : decode b_Mn_walkHole 56 = .ok (.iconst 1, 1) := by decide +kernel
theorem d_Mn_walkHole_57 : decode b_Mn_walkHole 57 = .ok (.iadd, 1) := by decide +kernel
theorem d_Mn_walkHole_58 : decode b_Mn_walkHole 58 = .ok (.ireturn, 1) := by decide +kernel
theorem d_Mn_walkHole_59 : decode b_Mn_walkHole 59 = .ok (.iinc 4 1, 3) := by decide +kernel
theorem d_Mn_walkHole_62 : decode b_Mn_walkHole 62 = .ok (.goto (-57), 3) := by decide +kernel
theorem d_Mn_walkHole_65 : decode b_Mn_walkHole 65 = .ok (.iconst 0, 1) := by decide +kernel
theorem d_Mn_walkHole_66 : decode b_Mn_walkHole 66 = .ok (.ireturn, 1) := by decide +kernel
theorem d_Mn_fillHole_0 : decode b_Mn_fillHole 0 = .ok (.iconst 1, 1) := by decide +kernel
theorem d_Mn_fillHole_1 : decode b_Mn_fillHole 1 = .ok (.istore_n 3, 1) := by decide +kernel
theorem d_Mn_fillHole_2 : decode b_Mn_fillHole 2 = .ok (.iload_n 3, 1) := by decide +kernel
theorem d_Mn_fillHole_3 : decode b_Mn_fillHole 3 = .ok (.iload_n 2, 1) := by decide +kernel
theorem d_Mn_fillHole_4 : decode b_Mn_fillHole 4 = .ok (.iconst 2, 1) := by decide +kernel
theorem d_Mn_fillHole_5 : decode b_Mn_fillHole 5 = .ok (.isub, 1) := by decide +kernel
theorem d_Mn_fillHole_6 : decode b_Mn_fillHole 6 = .ok (.if_icmp .gt 45, 3) := by decide +kernel
theorem d_Mn_fillHole_9 : decode b_Mn_fillHole 9 = .ok (.aload_n 1, 1) := by decide +kernel
theorem d_Mn_fillHole_10 : decode b_Mn_fillHole 10 = .ok (.aload_n 0, 1) := by decide +kernel
theorem d_Mn_fillHole_11 : decode b_Mn_fillHole 11 = .ok (.getfield 25, 3) := by decide +kernel
theorem d_Mn_fillHole_14 : decode b_Mn_fillHole 14 = .ok (.iconst 0, 1) := by decide +kernel
theorem d_Mn_fillHole_15 : decode b_Mn_fillHole 15 = .ok (.iaload, 1) := by decide +kernel
theorem d_Mn_fillHole_16 : decode b_Mn_fillHole 16 = .ok (.aload_n 0, 1) := by decide +kernel
theorem d_Mn_fillHole_17 : decode b_Mn_fillHole 17 = .ok (.getfield 25, 3) := by decide +kernel
theorem d_Mn_fillHole_20 : decode b_Mn_fillHole 20 = .ok (.iload_n 3, 1) := by decide +kernel
theorem d_Mn_fillHole_21 : decode b_Mn_fillHole 21 = .ok (.iconst 1, 1) := by decide +kernel
theorem d_Mn_fillHole_22 : decode b_Mn_fillHole 22 = .ok (.iadd, 1) := by decide +kernel
theorem d_Mn_fillHole_23 : decode b_Mn_fillHole 23 = .ok (.iaload, 1) := by decide +kernel
theorem d_Mn_fillHole_24 : decode b_Mn_fillHole 24 = .ok (.aload_n 0, 1) := by decide +kernel
theorem d_Mn_fillHole_25 : decode b_Mn_fillHole 25 = .ok (.getfield 25, 3) := by decide +kernel
theorem d_Mn_fillHole_28 : decode b_Mn_fillHole 28 = .ok (.iload_n 3, 1) := by decide +kernel
theorem d_Mn_fillHole_29 : decode b_Mn_fillHole 29 = .ok (.iaload, 1) := by decide +kernel
theorem d_Mn_fillHole_30 : decode b_Mn_fillHole 30 = .ok (.invokevirtual 107, 3) := by decide +kernel
theorem d_Mn_fillHole_33 : decode b_Mn_fillHole 33 = .ok (.pop, 1) := by decide +kernel
theorem d_Mn_fillHole_34 : decode b_Mn_fillHole 34 = .ok (.aload_n 0, 1) := by decide +kernel
theorem d_Mn_fillHole_35 : decode b_Mn_fillHole 35 = .ok (.aload_n 1, 1) := by decide +kernel
theorem d_Mn_fillHole_36 : decode b_Mn_fillHole 36 = .ok (.aload_n 1, 1) := by decide +kernel
theorem d_Mn_fillHole_37 : decode b_Mn_fillHole 37 = .ok (.getfield 56, 3) := by decide +kernel
theorem d_Mn_fillHole_40 : decode b_Mn_fillHole 40 = .ok (.iconst 1, 1) := by decide +kernel
theorem d_Mn_fillHole_41 : decode b_Mn_fillHole 41 = .ok (.isub, 1) := by decide +kernel
theorem d_Mn_fillHole_42 : decode b_Mn_fillHole 42 = .ok (.invokevirtual 86, 3) := by decide +kernel
theorem d_Mn_fillHole_45 : decode b_Mn_fillHole 45 = .ok (.iinc 3 1, 3) := by decide +kernel
theorem d_Mn_fillHole_48 : decode b_Mn_fillHole 48 = .ok (.goto (-46), 3) := by decide +kernel
theorem d_Mn_fillHole_51 : decode b_Mn_fillHole 51 = .ok (.aload_n 0, 1) := by decide +kernel
theorem d_Mn_fillHole_52 : decode b_Mn_fillHole 52 = .ok (.dup, 1) := by decide +kernel
theorem d_Mn_fillHole_53 : decode b_Mn_fillHole 53 = .ok (.getfield 111, 3) := by decide +kernel
theorem d_Mn_fillHole_56 : decode b_Mn_fillHole 56 = .ok (.iconst 1, 1) := by decide +kernel
theorem d_Mn_fillHole_57 : decode b_Mn_fillHole 57 = .ok (.iadd, 1) := by decide +kernel
theorem d_Mn_fillHole_58 : decode b_Mn_fillHole 58 = .ok (.putfield 111, 3) := by decide +kernel
theorem d_Mn_fillHole_61 : decode b_Mn_fillHole 61 = .ok (.return_, 1) := by decide +kernel
theorem d_Mn_closeFirstHole_0 : decode b_Mn_closeFirstHole 0 = .ok (.iconst 0, 1) := by decide +kernel
theorem d_Mn_closeFirstHole_1 : decode b_Mn_closeFirstHole 1 = .ok (.istore_n 2, 1) := by decide +kernel
theorem d_Mn_closeFirstHole_2 : decode b_Mn_closeFirstHole 2 = .ok (.iload_n 2, 1) := by decide +kernel
theorem d_Mn_closeFirstHole_3 : decode b_Mn_closeFirstHole 3 = .ok (.aload_n 1, 1) := by decide +kernel
theorem d_Mn_closeFirstHole_4 : decode b_Mn_closeFirstHole 4 = .ok (.getfield 42, 3) := by decide +kernel
theorem d_Mn_closeFirstHole_7 : decode b_Mn_closeFirstHole 7 = .ok (.if_icmp .ge 45, 3) := by decide +kernel
theorem d_Mn_closeFirstHole_10 : decode b_Mn_closeFirstHole 10 = .ok (.aload_n 0, 1) := by decide +kernel
theorem d_Mn_closeFirstHole_11 : decode b_Mn_closeFirstHole 11 = .ok (.iload_n 2, 1) := by decide +kernel
theorem d_Mn_closeFirstHole_12 : decode b_Mn_closeFirstHole 12 = .ok (.aload_n 1, 1) := by decide +kernel
theorem d_Mn_closeFirstHole_13 : decode b_Mn_closeFirstHole 13 = .ok (.getfield 42, 3) := by decide +kernel
theorem d_Mn_closeFirstHole_16 : decode b_Mn_closeFirstHole 16 = .ok (.invokevirtual 94, 3) := by decide +kernel
theorem d_Mn_closeFirstHole_19 : decode b_Mn_closeFirstHole 19 = .ok (.istore_n 3, 1) := by decide +kernel
theorem d_Mn_closeFirstHole_20 : decode b_Mn_closeFirstHole 20 = .ok (.iload_n 3, 1) := by decide +kernel
theorem d_Mn_closeFirstHole_21 : decode b_Mn_closeFirstHole 21 = .ok (.iconst 3, 1) := by decide +kernel
theorem d_Mn_closeFirstHole_22 : decode b_Mn_closeFirstHole 22 = .ok (.if_icmp .lt 24, 3) := by decide +kernel
theorem d_Mn_closeFirstHole_25 : decode b_Mn_closeFirstHole 25 = .ok (.aload_n 1, 1) := by decide +kernel
theorem d_Mn_closeFirstHole_26 : decode b_Mn_closeFirstHole 26 = .ok (.getfield 56, 3) := by decide +kernel
theorem d_Mn_closeFirstHole_29 : decode b_Mn_closeFirstHole 29 = .ok (.iload_n 3, 1) := by decide +kernel
theorem d_Mn_closeFirstHole_30 : decode b_Mn_closeFirstHole 30 = .ok (.iadd, 1) := by decide +kernel
theorem d_Mn_closeFirstHole_31 : decode b_Mn_closeFirstHole 31 = .ok (.iconst 2, 1) := by decide +kernel
theorem d_Mn_closeFirstHole_32 : decode b_Mn_closeFirstHole 32 = .ok (.isub, 1) := by decide +kernel
theorem d_Mn_closeFirstHole_33 : decode b_Mn_closeFirstHole 33 = .ok (.bipush 120, 2) := by decide +kernel
theorem d_Mn_closeFirstHole_35 : decode b_Mn_closeFirstHole 35 = .ok (.if_icmp .gt 11, 3) := by decide +kernel
theorem d_Mn_closeFirstHole_38 : decode b_Mn_closeFirstHole 38 = .ok (.aload_n 0, 1) := by decide +kernel
theorem d_Mn_closeFirstHole_39 : decode b_Mn_closeFirstHole 39 = .ok (.aload_n 1, 1) := by decide +kernel
theorem d_Mn_closeFirstHole_40 : decode b_Mn_closeFirstHole 40 = .ok (.iload_n 3, 1) := by decide +kernel
theorem d_Mn_closeFirstHole_41 : decode b_Mn_closeFirstHole 41 = .ok (.invokevirtual 98, 3) := by decide +kernel
theorem d_Mn_closeFirstHole_44 : decode b_Mn_closeFirstHole 44 = .ok (.iconst 1, 1) := by decide +kernel
theorem d_Mn_closeFirstHole_45 : decode b_Mn_closeFirstHole 45 = .ok (.ireturn, 1) := by decide +kernel
theorem d_Mn_closeFirstHole_46 : decode b_Mn_closeFirstHole 46 = .ok (.iinc 2 1, 3) := by decide +kernel
theorem d_Mn_closeFirstHole_49 : decode b_Mn_closeFirstHole 49 = .ok (.goto (-47), 3) := by decide +kernel
theorem d_Mn_closeFirstHole_52 : decode b_Mn_closeFirstHole 52 = .ok (.iconst 0, 1) := by decide +kernel
theorem d_Mn_closeFirstHole_53 : decode b_Mn_closeFirstHole 53 = .ok (.ireturn, 1) := by decide +kernel
