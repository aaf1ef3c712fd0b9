theorem d_Me_onLattice_0 : decode b_Me_onLattice 0 = .ok (.iload_n 0, 1) := by decide +kernel
theorem d_Me_onLattice_1 : decode b_Me_onLattice 1 = .ok (.ifCond .lt 13, 3) := by decide +kernel
theorem d_Me_onLattice_4 : decode b_Me_onLattice 4 = .ok (.iload_n 0, 1) := by decide +kernel
theorem d_Me_onLattice_5 : decode b_Me_onLattice 5 = .ok (.bipush 120, 2) := by decide +kernel
theorem d_Me_onLattice_7 : decode b_Me_onLattice 7 = .ok (.if_icmp .gt 7, 3) := by decide +kernel
theorem d_Me_onLattice_10 : decode b_Me_onLattice 10 = .ok (.iconst 1, 1) := by decide +kernel
theorem d_Me_onLattice_11 : decode b_Me_onLattice 11 = .ok (.goto 4, 3) := by decide +kernel
theorem d_Me_onLattice_14 : decode b_Me_onLattice 14 = .ok (.iconst 0, 1) := by decide +kernel
theorem d_Me_onLattice_15 : decode b_Me_onLattice 15 = .ok (.ireturn, 1) := by decide +kernel
theorem d_Me_addCorner_0 : decode b_Me_addCorner 0 = .ok (.aload_n 0, 1) := by decide +kernel
theorem d_Me_addCorner_1 : decode b_Me_addCorner 1 = .ok (.getfield 24, 3) := by decide +kernel
theorem d_Me_addCorner_4 : decode b_Me_addCorner 4 = .ok (.bipush 80, 2) := by decide +kernel
theorem d_Me_addCorner_6 : decode b_Me_addCorner 6 = .ok (.if_icmp .eq 24, 3) := by decide +kernel
theorem d_Me_addCorner_9 : decode b_Me_addCorner 9 = .ok (.iload_n 1, 1) := by decide +kernel
theorem d_Me_addCorner_10 : decode b_Me_addCorner 10 = .ok (.invokestatic 28, 3) := by decide +kernel
theorem d_Me_addCorner_13 : decode b_Me_addCorner 13 = .ok (.ifCond .eq 17, 3) := by decide +kernel
theorem d_Me_addCorner_16 : decode b_Me_addCorner 16 = .ok (.iload_n 2, 1) := by decide +kernel
theorem d_Me_addCorner_17 : decode b_Me_addCorner 17 = .ok (.invokestatic 28, 3) := by decide +kernel
theorem d_Me_addCorner_20 : decode b_Me_addCorner 20 = .ok (.ifCond .eq 10, 3) := by decide +kernel
theorem d_Me_addCorner_23 : decode b_Me_addCorner 23 = .ok (.iload_n 3, 1) := by decide +kernel
theorem d_Me_addCorner_24 : decode b_Me_addCorner 24 = .ok (.invokestatic 28, 3) := by decide +kernel
theorem d_Me_addCorner_27 : decode b_Me_addCorner 27 = .ok (.ifCond .ne 5, 3) := by decide +kernel
theorem d_Me_addCorner_30 : decode b_Me_addCorner 30 = .ok (.iconst (-1), 1) := by decide +kernel
theorem d_Me_addCorner_31 : decode b_Me_addCorner 31 = .ok (.ireturn, 1) := by decide +kernel
theorem d_Me_addCorner_32 : decode b_Me_addCorner 32 = .ok (.aload_n 0, 1) := by decide +kernel
theorem d_Me_addCorner_33 : decode b_Me_addCorner 33 = .ok (.getfield 9, 3) := by decide +kernel
theorem d_Me_addCorner_36 : decode b_Me_addCorner 36 = .ok (.aload_n 0, 1) := by decide +kernel
theorem d_Me_addCorner_37 : decode b_Me_addCorner 37 = .ok (.getfield 24, 3) := by decide +kernel
theorem d_Me_addCorner_40 : decode b_Me_addCorner 40 = .ok (.iload_n 1, 1) := by decide +kernel
theorem d_Me_addCorner_41 : decode b_Me_addCorner 41 = .ok (.iastore, 1) := by decide +kernel
theorem d_Me_addCorner_42 : decode b_Me_addCorner 42 = .ok (.aload_n 0, 1) := by decide +kernel
theorem d_Me_addCorner_43 : decode b_Me_addCorner 43 = .ok (.getfield 15, 3) := by decide +kernel
theorem d_Me_addCorner_46 : decode b_Me_addCorner 46 = .ok (.aload_n 0, 1) := by decide +kernel
theorem d_Me_addCorner_47 : decode b_Me_addCorner 47 = .ok (.getfield 24, 3) := by decide +kernel
theorem d_Me_addCorner_50 : decode b_Me_addCorner 50 = .ok (.iload_n 2, 1) := by decide +kernel
theorem d_Me_addCorner_51 : decode b_Me_addCorner 51 = .ok (.iastore, 1) := by decide +kernel
theorem d_Me_addCorner_52 : decode b_Me_addCorner 52 = .ok (.aload_n 0, 1) := by decide +kernel
theorem d_Me_addCorner_53 : decode b_Me_addCorner 53 = .ok (.getfield 18, 3) := by decide +kernel
theorem d_Me_addCorner_56 : decode b_Me_addCorner 56 = .ok (.aload_n 0, 1) := by decide +kernel
theorem d_Me_addCorner_57 : decode b_Me_addCorner 57 = .ok (.getfield 24, 3) := by decide +kernel
theorem d_Me_addCorner_60 : decode b_Me_addCorner 60 = .ok (.iload_n 3, 1) := by decide +kernel
theorem d_Me_addCorner_61 : decode b_Me_addCorner 61 = .ok (.iastore, 1) := by decide +kernel
theorem d_Me_addCorner_62 : decode b_Me_addCorner 62 = .ok (.aload_n 0, 1) := by decide +kernel
theorem d_Me_addCorner_63 : decode b_Me_addCorner 63 = .ok (.dup, 1) := by decide +kernel
theorem d_Me_addCorner_64 : decode b_Me_addCorner 64 = .ok (.getfield 24, 3) := by decide +kernel
theorem d_Me_addCorner_67 : decode b_Me_addCorner 67 = .ok (.iconst 1, 1) := by decide +kernel
theorem d_Me_addCorner_68 : decode b_Me_addCorner 68 = .ok (.iadd, 1) := by decide +kernel
theorem d_Me_addCorner_69 : decode b_Me_addCorner 69 = .ok (.putfield 24, 3) := by decide +kernel
theorem d_Me_addCorner_72 : decode b_Me_addCorner 72 = .ok (.aload_n 0, 1) := by decide +kernel
theorem d_Me_addCorner_73 : decode b_Me_addCorner 73 = .ok (.getfield 24, 3) := by decide +kernel
theorem d_Me_addCorner_76 : decode b_Me_addCorner 76 = .ok (.iconst 1, 1) := by decide +kernel
theorem d_Me_addCorner_77 : decode b_Me_addCorner 77 = .ok (.isub, 1) := by decide +kernel
theorem d_Me_addCorner_78 : decode b_Me_addCorner 78 = .ok (.ireturn, 1) := by decide +kernel
theorem d_Me_hasCorner_0 : decode b_Me_hasCorner 0 = .ok (.iload_n 1, 1) := by decide +kernel
theorem d_Me_hasCorner_1 : decode b_Me_hasCorner 1 = .ok (.ifCond .lt 15, 3) := by decide +kernel
theorem d_Me_hasCorner_4 : decode b_Me_hasCorner 4 = .ok (.iload_n 1, 1) := by decide +kernel
theorem d_Me_hasCorner_5 : decode b_Me_hasCorner 5 = .ok (.aload_n 0, 1) := by decide +kernel
theorem d_Me_hasCorner_6 : decode b_Me_hasCorner 6 = .ok (.getfield 24, 3) := by decide +kernel
theorem d_Me_hasCorner_9 : decode b_Me_hasCorner 9 = .ok (.if_icmp .ge 7, 3) := by decide +kernel
theorem d_Me_hasCorner_12 : decode b_Me_hasCorner 12 = .ok (.iconst 1, 1) := by decide +kernel
theorem d_Me_hasCorner_13 : decode b_Me_hasCorner 13 = .ok (.goto 4, 3) := by decide +kernel
theorem d_Me_hasCorner_16 : decode b_Me_hasCorner 16 = .ok (.iconst 0, 1) := by decide +kernel
theorem d_Me_hasCorner_17 : decode b_Me_hasCorner 17 = .ok (.ireturn, 1) := by decide +kernel
theorem d_Me_name_0 : decode b_Me_name 0 = .ok (.aload_n 0, 1) := by decide +kernel
theorem d_Me_name_1 : decode b_Me_name 1 = .ok (.getfield 21, 3) := by decide +kernel
theorem d_Me_name_4 : decode b_Me_name 4 = .ok (.iconst 3, 1) := by decide +kernel
theorem d_Me_name_5 : decode b_Me_name 5 = .ok (.iload_n 1, 1) := by decide +kernel
theorem d_Me_name_6 : decode b_Me_name 6 = .ok (.imul, 1) := by decide +kernel
theorem d_Me_name_7 : decode b_Me_name 7 = .ok (.iload_n 2, 1) := by decide +kernel
theorem d_Me_name_8 : decode b_Me_name 8 = .ok (.iastore, 1) := by decide +kernel
theorem d_Me_name_9 : decode b_Me_name 9 = .ok (.aload_n 0, 1) := by decide +kernel
theorem d_Me_name_10 : decode b_Me_name 10 = .ok (.getfield 21, 3) := by decide +kernel
theorem d_Me_name_13 : decode b_Me_name 13 = .ok (.iconst 3, 1) := by decide +kernel
theorem d_Me_name_14 : decode b_Me_name 14 = .ok (.iload_n 1, 1) := by decide +kernel
theorem d_Me_name_15 : decode b_Me_name 15 = .ok (.imul, 1) := by decide +kernel
theorem d_Me_name_16 : decode b_Me_name 16 = .ok (.iconst 1, 1) := by decide +kernel
theorem d_Me_name_17 : decode b_Me_name 17 = .ok (.iadd, 1) := by decide +kernel
theorem d_Me_name_18 : decode b_Me_name 18 = .ok (.iload_n 3, 1) := by decide +kernel
theorem d_Me_name_19 : decode b_Me_name 19 = .ok (.iastore, 1) := by decide +kernel
theorem d_Me_name_20 : decode b_Me_name 20 = .ok (.aload_n 0, 1) := by decide +kernel
theorem d_Me_name_21 : decode b_Me_name 21 = .ok (.getfield 21, 3) := by decide +kernel
theorem d_Me_name_24 : decode b_Me_name 24 = .ok (.iconst 3, 1) := by decide +kernel
theorem d_Me_name_25 : decode b_Me_name 25 = .ok (.iload_n 1, 1) := by decide +kernel
theorem d_Me_name_26 : decode b_Me_name 26 = .ok (.imul, 1) := by decide +kernel
theorem d_Me_name_27 : decode b_Me_name 27 = .ok (.iconst 2, 1) := by decide +kernel
theorem d_Me_name_28 : decode b_Me_name 28 = .ok (.iadd, 1) := by decide +kernel
theorem d_Me_name_29 : decode b_Me_name 29 = .ok (.iload 4, 2) := by decide +kernel
theorem d_Me_name_31 : decode b_Me_name 31 = .ok (.iastore, 1) := by decide +kernel
theorem d_Me_name_32 : decode b_Me_name 32 = .ok (.return_, 1) := by decide +kernel
theorem d_Me_addTriangle_0 : decode b_Me_addTriangle 0 = .ok (.aload_n 0, 1) := by decide +kernel
theorem d_Me_addTriangle_1 : decode b_Me_addTriangle 1 = .ok (.getfield 32, 3) := by decide +kernel
theorem d_Me_addTriangle_4 : decode b_Me_addTriangle 4 = .ok (.bipush 120, 2) := by decide +kernel
theorem d_Me_addTriangle_6 : decode b_Me_addTriangle 6 = .ok (.if_icmp .eq 27, 3) := by decide +kernel
theorem d_Me_addTriangle_9 : decode b_Me_addTriangle 9 = .ok (.aload_n 0, 1) := by decide +kernel
theorem d_Me_addTriangle_10 : decode b_Me_addTriangle 10 = .ok (.iload_n 1, 1) := by decide +kernel
theorem d_Me_addTriangle_11 : decode b_Me_addTriangle 11 = .ok (.invokevirtual 35, 3) := by decide +kernel
theorem d_Me_addTriangle_14 : decode b_Me_addTriangle 14 = .ok (.ifCond .eq 19, 3) := by decide +kernel
theorem d_Me_addTriangle_17 : decode b_Me_addTriangle 17 = .ok (.aload_n 0, 1) := by decide +kernel
theorem d_Me_addTriangle_18 : decode b_Me_addTriangle 18 = .ok (.iload_n 2, 1) := by decide +kernel
theorem d_Me_addTriangle_19 : decode b_Me_addTriangle 19 = .ok (.invokevirtual 35, 3) := by decide +kernel
theorem d_Me_addTriangle_22 : decode b_Me_addTriangle 22 = .ok (.ifCond .eq 11, 3) := by decide +kernel
theorem d_Me_addTriangle_25 : decode b_Me_addTriangle 25 = .ok (.aload_n 0, 1) := by decide +kernel
theorem d_Me_addTriangle_26 : decode b_Me_addTriangle 26 = .ok (.iload_n 3, 1) := by decide +kernel
theorem d_Me_addTriangle_27 : decode b_Me_addTriangle 27 = .ok (.invokevirtual 35, 3) := by decide +kernel
theorem d_Me_addTriangle_30 : decode b_Me_addTriangle 30 = .ok (.ifCond .ne 5, 3) := by decide +kernel
theorem d_Me_addTriangle_33 : decode b_Me_addTriangle 33 = .ok (.iconst (-1), 1) := by decide +kernel
theorem d_Me_addTriangle_34 : decode b_Me_addTriangle 34 = .ok (.ireturn, 1) := by decide +kernel
theorem d_Me_addTriangle_35 : decode b_Me_addTriangle 35 = .ok (.aload_n 0, 1) := by decide +kernel
theorem d_Me_addTriangle_36 : decode b_Me_addTriangle 36 = .ok (.aload_n 0, 1) := by decide +kernel
theorem d_Me_addTriangle_37 : decode b_Me_addTriangle 37 = .ok (.getfield 32, 3) := by decide +kernel
theorem d_Me_addTriangle_40 : decode b_Me_addTriangle 40 = .ok (.iload_n 1, 1) := by decide +kernel
theorem d_Me_addTriangle_41 : decode b_Me_addTriangle 41 = .ok (.iload_n 2, 1) := by decide +kernel
theorem d_Me_addTriangle_42 : decode b_Me_addTriangle 42 = .ok (.iload_n 3, 1) := by decide +kernel
theorem d_Me_addTriangle_43 : decode b_Me_addTriangle 43 = .ok (.invokevirtual 38, 3) := by decide +kernel
theorem d_Me_addTriangle_46 : decode b_Me_addTriangle 46 = .ok (.aload_n 0, 1) := by decide +kernel
theorem d_Me_addTriangle_47 : decode b_Me_addTriangle 47 = .ok (.dup, 1) := by decide +kernel
theorem d_Me_addTriangle_48 : decode b_Me_addTriangle 48 = .ok (.getfield 32, 3) := by decide +kernel
theorem d_Me_addTriangle_51 : decode b_Me_addTriangle 51 = .ok (.iconst 1, 1) := by decide +kernel
theorem d_Me_addTriangle_52 : decode b_Me_addTriangle 52 = .ok (.iadd, 1) := by decide +kernel
theorem d_Me_addTriangle_53 : decode b_Me_addTriangle 53 = .ok (.putfield 32, 3) := by decide +kernel
theorem d_Me_addTriangle_56 : decode b_Me_addTriangle 56 = .ok (.aload_n 0, 1) := by decide +kernel
theorem d_Me_addTriangle_57 : decode b_Me_addTriangle 57 = .ok (.getfield 32, 3) := by decide +kernel
theorem d_Me_addTriangle_60 : decode b_Me_addTriangle 60 = .ok (.iconst 1, 1) := by decide +kernel
theorem d_Me_addTriangle_61 : decode b_Me_addTriangle 61 = .ok (.isub, 1) := by decide +kernel
theorem d_Me_addTriangle_62 : decode b_Me_addTriangle 62 = .ok (.ireturn, 1) := by decide +kernel
theorem d_Me_samePlace_0 : decode b_Me_samePlace 0 = .ok (.aload_n 0, 1) := by decide +kernel
theorem d_Me_samePlace_1 : decode b_Me_samePlace 1 = .ok (.getfield 9, 3) := by decide +kernel
theorem d_Me_samePlace_4 : decode b_Me_samePlace 4 = .ok (.iload_n 1, 1) := by decide +kernel
theorem d_Me_samePlace_5 : decode b_Me_samePlace 5 = .ok (.iaload, 1) := by decide +kernel
theorem d_Me_samePlace_6 : decode b_Me_samePlace 6 = .ok (.aload_n 0, 1) := by decide +kernel
theorem d_Me_samePlace_7 : decode b_Me_samePlace 7 = .ok (.getfield 9, 3) := by decide +kernel
theorem d_Me_samePlace_10 : decode b_Me_samePlace 10 = .ok (.iload_n 2, 1) := by decide +kernel
theorem d_Me_samePlace_11 : decode b_Me_samePlace 11 = .ok (.iaload, 1) := by decide +kernel
theorem d_Me_samePlace_12 : decode b_Me_samePlace 12 = .ok (.if_icmp .ne 37, 3) := by decide +kernel
theorem d_Me_samePlace_15 : decode b_Me_samePlace 15 = .ok (.aload_n 0, 1) := by decide +kernel
theorem d_Me_samePlace_16 : decode b_Me_samePlace 16 = .ok (.getfield 15, 3) := by decide +kernel
theorem d_Me_samePlace_19 : decode b_Me_samePlace 19 = .ok (.iload_n 1, 1) := by decide +kernel
theorem d_Me_samePlace_20 : decode b_Me_samePlace 20 = .ok (.iaload, 1) := by decide +kernel
theorem d_Me_samePlace_21 : decode b_Me_samePlace 21 = .ok (.aload_n 0, 1) := by decide +kernel
theorem d_Me_samePlace_22 : decode b_Me_samePlace 22 = .ok (.getfield 15, 3) := by decide +kernel
theorem d_Me_samePlace_25 : decode b_Me_samePlace 25 = .ok (.iload_n 2, 1) := by decide +kernel
theorem d_Me_samePlace_26 : decode b_Me_samePlace 26 = .ok (.iaload, 1) := by decide +kernel
theorem d_Me_samePlace_27 : decode b_Me_samePlace 27 = .ok (.if_icmp .ne 22, 3) := by decide +kernel
theorem d_Me_samePlace_30 : decode b_Me_samePlace 30 = .ok (.aload_n 0, 1) := by decide +kernel
theorem d_Me_samePlace_31 : decode b_Me_samePlace 31 = .ok (.getfield 18, 3) := by decide +kernel
theorem d_Me_samePlace_34 : decode b_Me_samePlace 34 = .ok (.iload_n 1, 1) := by decide +kernel
theorem d_Me_samePlace_35 : decode b_Me_samePlace 35 = .ok (.iaload, 1) := by decide +kernel
theorem d_Me_samePlace_36 : decode b_Me_samePlace 36 = .ok (.aload_n 0, 1) := by decide +kernel
theorem d_Me_samePlace_37 : decode b_Me_samePlace 37 = .ok (.getfield 18, 3) := by decide +kernel
theorem d_Me_samePlace_40 : decode b_Me_samePlace 40 = .ok (.iload_n 2, 1) := by decide +kernel
theorem d_Me_samePlace_41 : decode b_Me_samePlace 41 = .ok (.iaload, 1) := by decide +kernel
theorem d_Me_samePlace_42 : decode b_Me_samePlace 42 = .ok (.if_icmp .ne 7, 3) := by decide +kernel
theorem d_Me_samePlace_45 : decode b_Me_samePlace 45 = .ok (.iconst 1, 1) := by decide +kernel
theorem d_Me_samePlace_46 : decode b_Me_samePlace 46 = .ok (.goto 4, 3) := by decide +kernel
theorem d_Me_samePlace_49 : decode b_Me_samePlace 49 = .ok (.iconst 0, 1) := by decide +kernel
theorem d_Me_samePlace_50 : decode b_Me_samePlace 50 = .ok (.ireturn, 1) := by decide +kernel
theorem d_Me_onOneLine_0 : decode b_Me_onOneLine 0 = .ok (.aload_n 0, 1) := by decide +kernel
theorem d_Me_onOneLine_1 : decode b_Me_onOneLine 1 = .ok (.getfield 9, 3) := by decide +kernel
theorem d_Me_onOneLine_4 : decode b_Me_onOneLine 4 = .ok (.iload_n 2, 1) := by decide +kernel
theorem d_Me_onOneLine_5 : decode b_Me_onOneLine 5 = .ok (.iaload, 1) := by decide +kernel
theorem d_Me_onOneLine_6 : decode b_Me_onOneLine 6 = .ok (.aload_n 0, 1) := by decide +kernel
theorem d_Me_onOneLine_7 : decode b_Me_onOneLine 7 = .ok (.getfield 9, 3) := by decide +kernel
theorem d_Me_onOneLine_10 : decode b_Me_onOneLine 10 = .ok (.iload_n 1, 1) := by decide +kernel
theorem d_Me_onOneLine_11 : decode b_Me_onOneLine 11 = .ok (.iaload, 1) := by decide +kernel
theorem d_Me_onOneLine_12 : decode b_Me_onOneLine 12 = .ok (.isub, 1) := by decide +kernel
theorem d_Me_onOneLine_13 : decode b_Me_onOneLine 13 = .ok (.istore 4, 2) := by decide +kernel
theorem d_Me_onOneLine_15 : decode b_Me_onOneLine 15 = .ok (.aload_n 0, 1) := by decide +kernel
theorem d_Me_onOneLine_16 : decode b_Me_onOneLine 16 = .ok (.getfield 15, 3) := by decide +kernel
theorem d_Me_onOneLine_19 : decode b_Me_onOneLine 19 = .ok (.iload_n 2, 1) := by decide +kernel
theorem d_Me_onOneLine_20 : decode b_Me_onOneLine 20 = .ok (.iaload, 1) := by decide +kernel
theorem d_Me_onOneLine_21 : decode b_Me_onOneLine 21 = .ok (.aload_n 0, 1) := by decide +kernel
theorem d_Me_onOneLine_22 : decode b_Me_onOneLine 22 = .ok (.getfield 15, 3) := by decide +kernel
theorem d_Me_onOneLine_25 : decode b_Me_onOneLine 25 = .ok (.iload_n 1, 1) := by decide +kernel
theorem d_Me_onOneLine_26 : decode b_Me_onOneLine 26 = .ok (.iaload, 1) := by decide +kernel
theorem d_Me_onOneLine_27 : decode b_Me_onOneLine 27 = .ok (.isub, 1) := by decide +kernel
theorem d_Me_onOneLine_28 : decode b_Me_onOneLine 28 = .ok (.istore 5, 2) := by decide +kernel
theorem d_Me_onOneLine_30 : decode b_Me_onOneLine 30 = .ok (.aload_n 0, 1) := by decide +kernel
theorem d_Me_onOneLine_31 : decode b_Me_onOneLine 31 = .ok (.getfield 18, 3) := by decide +kernel
theorem d_Me_onOneLine_34 : decode b_Me_onOneLine 34 = .ok (.iload_n 2, 1) := by decide +kernel
theorem d_Me_onOneLine_35 : decode b_Me_onOneLine 35 = .ok (.iaload, 1) := by decide +kernel
theorem d_Me_onOneLine_36 : decode b_Me_onOneLine 36 = .ok (.aload_n 0, 1) := by decide +kernel
theorem d_Me_onOneLine_37 : decode b_Me_onOneLine 37 = .ok (.getfield 18, 3) := by decide +kernel
theorem d_Me_onOneLine_40 : decode b_Me_onOneLine 40 = .ok (.iload_n 1, 1) := by decide +kernel
theorem d_Me_onOneLine_41 : decode b_Me_onOneLine 41 = .ok (.iaload, 1) := by decide +kernel
theorem d_Me_onOneLine_42 : decode b_Me_onOneLine 42 = .ok (.isub, 1) := by decide +kernel
theorem d_Me_onOneLine_43 : decode b_Me_onOneLine 43 = .ok (.istore 6, 2) := by decide +kernel
theorem d_Me_onOneLine_45 : decode b_Me_onOneLine 45 = .ok (.aload_n 0, 1) := by decide +kernel
theorem d_Me_onOneLine_46 : decode b_Me_onOneLine 46 = .ok (.getfield 9, 3) := by decide +kernel
theorem d_Me_onOneLine_49 : decode b_Me_onOneLine 49 = .ok (.iload_n 3, 1) := by decide +kernel
theorem d_Me_onOneLine_50 : decode b_Me_onOneLine 50 = .ok (.iaload, 1) := by decide +kernel
theorem d_Me_onOneLine_51 : decode b_Me_onOneLine 51 = .ok (.aload_n 0, 1) := by decide +kernel
theorem d_Me_onOneLine_52 : decode b_Me_onOneLine 52 = .ok (.getfield 9, 3) := by decide +kernel
theorem d_Me_onOneLine_55 : decode b_Me_onOneLine 55 = .ok (.iload_n 1, 1) := by decide +kernel
theorem d_Me_onOneLine_56 : decode b_Me_onOneLine 56 = .ok (.iaload, 1) := by decide +kernel
theorem d_Me_onOneLine_57 : decode b_Me_onOneLine 57 = .ok (.isub, 1) := by decide +kernel
theorem d_Me_onOneLine_58 : decode b_Me_onOneLine 58 = .ok (.istore 7, 2) := by decide +kernel
theorem d_Me_onOneLine_60 : decode b_Me_onOneLine 60 = .ok (.aload_n 0, 1) := by decide +kernel
theorem d_Me_onOneLine_61 : decode b_Me_onOneLine 61 = .ok (.getfield 15, 3) := by decide +kernel
theorem d_Me_onOneLine_64 : decode b_Me_onOneLine 64 = .ok (.iload_n 3, 1) := by decide +kernel
theorem d_Me_onOneLine_65 : decode b_Me_onOneLine 65 = .ok (.iaload, 1) := by decide +kernel
theorem d_Me_onOneLine_66 : decode b_Me_onOneLine 66 = .ok (.aload_n 0, 1) := by decide +kernel
theorem d_Me_onOneLine_67 : decode b_Me_onOneLine 67 = .ok (.getfield 15, 3) := by decide +kernel
theorem d_Me_onOneLine_70 : decode b_Me_onOneLine 70 = .ok (.iload_n 1, 1) := by decide +kernel
theorem d_Me_onOneLine_71 : decode b_Me_onOneLine 71 = .ok (.iaload, 1) := by decide +kernel
theorem d_Me_onOneLine_72 : decode b_Me_onOneLine 72 = .ok (.isub, 1) := by decide +kernel
theorem d_Me_onOneLine_73 : decode b_Me_onOneLine 73 = .ok (.istore 8, 2) := by decide +kernel
theorem d_Me_onOneLine_75 : decode b_Me_onOneLine 75 = .ok (.aload_n 0, 1) := by decide +kernel
theorem d_Me_onOneLine_76 : decode b_Me_onOneLine 76 = .ok (.getfield 18, 3) := by decide +kernel
theorem d_Me_onOneLine_79 : decode b_Me_onOneLine 79 = .ok (.iload_n 3, 1) := by decide +kernel
theorem d_Me_onOneLine_80 : decode b_Me_onOneLine 80 = .ok (.iaload, 1) := by decide +kernel
theorem d_Me_onOneLine_81 : decode b_Me_onOneLine 81 = .ok (.aload_n 0, 1) := by decide +kernel
theorem d_Me_onOneLine_82 : decode b_Me_onOneLine 82 = .ok (.getfield 18, 3) := by decide +kernel
theorem d_Me_onOneLine_85 : decode b_Me_onOneLine 85 = .ok (.iload_n 1, 1) := by decide +kernel
theorem d_Me_onOneLine_86 : decode b_Me_onOneLine 86 = .ok (.iaload, 1) := by decide +kernel
theorem d_Me_onOneLine_87 : decode b_Me_onOneLine 87 = .ok (.isub, 1) := by decide +kernel
theorem d_Me_onOneLine_88 : decode b_Me_onOneLine 88 = .ok (.istore 9, 2) := by decide +kernel
theorem d_Me_onOneLine_90 : decode b_Me_onOneLine 90 = .ok (.iload 5, 2) := by decide +kernel
theorem d_Me_onOneLine_92 : decode b_Me_onOneLine 92 = .ok (.iload 9, 2) := by decide +kernel
theorem d_Me_onOneLine_94 : decode b_Me_onOneLine 94 = .ok (.imul, 1) := by decide +kernel
theorem d_Me_onOneLine_95 : decode b_Me_onOneLine 95 = .ok (.iload 6, 2) := by decide +kernel
theorem d_Me_onOneLine_97 : decode b_Me_onOneLine 97 = .ok (.iload 8, 2) := by decide +kernel
theorem d_Me_onOneLine_99 : decode b_Me_onOneLine 99 = .ok (.imul, 1) := by decide +kernel
theorem d_Me_onOneLine_100 : decode b_Me_onOneLine 100 = .ok (.if_icmp .ne 33, 3) := by decide +kernel
theorem d_Me_onOneLine_103 : decode b_Me_onOneLine 103 = .ok (.iload 6, 2) := by decide +kernel
theorem d_Me_onOneLine_105 : decode b_Me_onOneLine 105 = .ok (.iload 7, 2) := by decide +kernel
theorem d_Me_onOneLine_107 : decode b_Me_onOneLine 107 = .ok (.imul, 1) := by decide +kernel
theorem d_Me_onOneLine_108 : decode b_Me_onOneLine 108 = .ok (.iload 4, 2) := by decide +kernel
theorem d_Me_onOneLine_110 : decode b_Me_onOneLine 110 = .ok (.iload 9, 2) := by decide +kernel
theorem d_Me_onOneLine_112 : decode b_Me_onOneLine 112 = .ok (.imul, 1) := by decide +kernel
theorem d_Me_onOneLine_113 : decode b_Me_onOneLine 113 = .ok (.if_icmp .ne 20, 3) := by decide +kernel
theorem d_Me_onOneLine_116 : decode b_Me_onOneLine 116 = .ok (.iload 4, 2) := by decide +kernel
theorem d_Me_onOneLine_118 : decode b_Me_onOneLine 118 = .ok (.iload 8, 2) := by decide +kernel
theorem d_Me_onOneLine_120 : decode b_Me_onOneLine 120 = .ok (.imul, 1) := by decide +kernel
theorem d_Me_onOneLine_121 : decode b_Me_onOneLine 121 = .ok (.iload 5, 2) := by decide +kernel
theorem d_Me_onOneLine_123 : decode b_Me_onOneLine 123 = .ok (.iload 7, 2) := by decide +kernel
theorem d_Me_onOneLine_125 : decode b_Me_onOneLine 125 = .ok (.imul, 1) := by decide +kernel
theorem d_Me_onOneLine_126 : decode b_Me_onOneLine 126 = .ok (.if_icmp .ne 7, 3) := by decide +kernel
theorem d_Me_onOneLine_129 : decode b_Me_onOneLine 129 = .ok (.iconst 1, 1) := by decide +kernel
theorem d_Me_onOneLine_130 : decode b_Me_onOneLine 130 = .ok (.goto 4, 3) := by decide +kernel
theorem d_Me_onOneLine_133 : decode b_Me_onOneLine 133 = .ok (.iconst 0, 1) := by decide +kernel
theorem d_Me_onOneLine_134 : decode b_Me_onOneLine 134 = .ok (.ireturn, 1) := by decide +kernel
theorem d_Me_turnQuarter_0 : decode b_Me_turnQuarter 0 = .ok (.iconst 0, 1) := by decide +kernel
theorem d_Me_turnQuarter_1 : decode b_Me_turnQuarter 1 = .ok (.istore_n 2, 1) := by decide +kernel
theorem d_Me_turnQuarter_2 : decode b_Me_turnQuarter 2 = .ok (.iload_n 2, 1) := by decide +kernel
theorem d_Me_turnQuarter_3 : decode b_Me_turnQuarter 3 = .ok (.aload_n 0, 1) := by decide +kernel
theorem d_Me_turnQuarter_4 : decode b_Me_turnQuarter 4 = .ok (.getfield 24, 3) := by decide +kernel
theorem d_Me_turnQuarter_7 : decode b_Me_turnQuarter 7 = .ok (.if_icmp .ge 102, 3) := by decide +kernel
theorem d_Me_turnQuarter_10 : decode b_Me_turnQuarter 10 = .ok (.aload_n 0, 1) := by decide +kernel
theorem d_Me_turnQuarter_11 : decode b_Me_turnQuarter 11 = .ok (.getfield 9, 3) := by decide +kernel
theorem d_Me_turnQuarter_14 : decode b_Me_turnQuarter 14 = .ok (.iload_n 2, 1) := by decide +kernel
theorem d_Me_turnQuarter_15 : decode b_Me_turnQuarter 15 = .ok (.iaload, 1) := by decide +kernel
theorem d_Me_turnQuarter_16 : decode b_Me_turnQuarter 16 = .ok (.istore_n 3, 1) := by decide +kernel
theorem d_Me_turnQuarter_17 : decode b_Me_turnQuarter 17 = .ok (.aload_n 0, 1) := by decide +kernel
theorem d_Me_turnQuarter_18 : decode b_Me_turnQuarter 18 = .ok (.getfield 15, 3) := by decide +kernel
theorem d_Me_turnQuarter_21 : decode b_Me_turnQuarter 21 = .ok (.iload_n 2, 1) := by decide +kernel
theorem d_Me_turnQuarter_22 : decode b_Me_turnQuarter 22 = .ok (.iaload, 1) := by decide +kernel
theorem d_Me_turnQuarter_23 : decode b_Me_turnQuarter 23 = .ok (.istore 4, 2) := by decide +kernel
theorem d_Me_turnQuarter_25 : decode b_Me_turnQuarter 25 = .ok (.iload_n 1, 1) := by decide +kernel
theorem d_Me_turnQuarter_26 : decode b_Me_turnQuarter 26 = .ok (.ifCond .ne 29, 3) := by decide +kernel
theorem d_Me_turnQuarter_29 : decode b_Me_turnQuarter 29 = .ok (.aload_n 0, 1) := by decide +kernel
theorem d_Me_turnQuarter_30 : decode b_Me_turnQuarter 30 = .ok (.getfield 15, 3) := by decide +kernel
theorem d_Me_turnQuarter_33 : decode b_Me_turnQuarter 33 = .ok (.iload_n 2, 1) := by decide +kernel
theorem d_Me_turnQuarter_34 : decode b_Me_turnQuarter 34 = .ok (.bipush 120, 2) := by decide +kernel
theorem d_Me_turnQuarter_36 : decode b_Me_turnQuarter 36 = .ok (.aload_n 0, 1) := by decide +kernel
theorem d_Me_turnQuarter_37 : decode b_Me_turnQuarter 37 = .ok (.getfield 18, 3) := by decide +kernel
theorem d_Me_turnQuarter_40 : decode b_Me_turnQuarter 40 = .ok (.iload_n 2, 1) := by decide +kernel
theorem d_Me_turnQuarter_41 : decode b_Me_turnQuarter 41 = .ok (.iaload, 1) := by decide +kernel
theorem d_Me_turnQuarter_42 : decode b_Me_turnQuarter 42 = .ok (.isub, 1) := by decide +kernel
theorem d_Me_turnQuarter_43 : decode b_Me_turnQuarter 43 = .ok (.iastore, 1) := by decide +kernel
theorem d_Me_turnQuarter_44 : decode b_Me_turnQuarter 44 = .ok (.aload_n 0, 1) := by decide +kernel
theorem d_Me_turnQuarter_45 : decode b_Me_turnQuarter 45 = .ok (.getfield 18, 3) := by decide +kernel
theorem d_Me_turnQuarter_48 : decode b_Me_turnQuarter 48 = .ok (.iload_n 2, 1) := by decide +kernel
theorem d_Me_turnQuarter_49 : decode b_Me_turnQuarter 49 = .ok (.iload 4, 2) := by decide +kernel
theorem d_Me_turnQuarter_51 : decode b_Me_turnQuarter 51 = .ok (.iastore, 1) := by decide +kernel
theorem d_Me_turnQuarter_52 : decode b_Me_turnQuarter 52 = .ok (.goto 51, 3) := by decide +kernel
theorem d_Me_turnQuarter_55 : decode b_Me_turnQuarter 55 = .ok (.iload_n 1, 1) := by decide +kernel
theorem d_Me_turnQuarter_56 : decode b_Me_turnQuarter 56 = .ok (.iconst 1, 1) := by decide +kernel
theorem d_Me_turnQuarter_57 : decode b_Me_turnQuarter 57 = .ok (.if_icmp .ne 28, 3) := by decide +kernel
theorem d_Me_turnQuarter_60 : decode b_Me_turnQuarter 60 = .ok (.aload_n 0, 1) := by decide +kernel
theorem d_Me_turnQuarter_61 : decode b_Me_turnQuarter 61 = .ok (.getfield 9, 3) := by decide +kernel
theorem d_Me_turnQuarter_64 : decode b_Me_turnQuarter 64 = .ok (.iload_n 2, 1) := by decide +kernel
theorem d_Me_turnQuarter_65 : decode b_Me_turnQuarter 65 = .ok (.aload_n 0, 1) := by decide +kernel
theorem d_Me_turnQuarter_66 : decode b_Me_turnQuarter 66 = .ok (.getfield 18, 3) := by decide +kernel
theorem d_Me_turnQuarter_69 : decode b_Me_turnQuarter 69 = .ok (.iload_n 2, 1) := by decide +kernel
theorem d_Me_turnQuarter_70 : decode b_Me_turnQuarter 70 = .ok (.iaload, 1) := by decide +kernel
theorem d_Me_turnQuarter_71 : decode b_Me_turnQuarter 71 = .ok (.iastore, 1) := by decide +kernel
theorem d_Me_turnQuarter_72 : decode b_Me_turnQuarter 72 = .ok (.aload_n 0, 1) := by decide +kernel
theorem d_Me_turnQuarter_73 : decode b_Me_turnQuarter 73 = .ok (.getfield 18, 3) := by decide +kernel
theorem d_Me_turnQuarter_76 : decode b_Me_turnQuarter 76 = .ok (.iload_n 2, 1) := by decide +kernel
theorem d_Me_turnQuarter_77 : decode b_Me_turnQuarter 77 = .ok (.bipush 120, 2) := by decide +kernel
theorem d_Me_turnQuarter_79 : decode b_Me_turnQuarter 79 = .ok (.iload_n 3, 1) := by decide +kernel
theorem d_Me_turnQuarter_80 : decode b_Me_turnQuarter 80 = .ok (.isub, 1) := by decide +kernel
theorem d_Me_turnQuarter_81 : decode b_Me_turnQuarter 81 = .ok (.iastore, 1) := by decide +kernel
theorem d_Me_turnQuarter_82 : decode b_Me_turnQuarter 82 = .ok (.goto 21, 3) := by decide +kernel
theorem d_Me_turnQuarter_85 : decode b_Me_turnQuarter 85 = .ok (.aload_n 0, 1) := by decide +kernel
theorem d_Me_turnQuarter_86 : decode b_Me_turnQuarter 86 = .ok (.getfield 9, 3) := by decide +kernel
theorem d_Me_turnQuarter_89 : decode b_Me_turnQuarter 89 = .ok (.iload_n 2, 1) := by decide +kernel
theorem d_Me_turnQuarter_90 : decode b_Me_turnQuarter 90 = .ok (.bipush 120, 2) := by decide +kernel
theorem d_Me_turnQuarter_92 : decode b_Me_turnQuarter 92 = .ok (.iload 4, 2) := by decide +kernel
theorem d_Me_turnQuarter_94 : decode b_Me_turnQuarter 94 = .ok (.isub, 1) := by decide +kernel
theorem d_Me_turnQuarter_95 : decode b_Me_turnQuarter 95 = .ok (.iastore, 1) := by decide +kernel
theorem d_Me_turnQuarter_96 : decode b_Me_turnQuarter 96 = .ok (.aload_n 0, 1) := by decide +kernel
theorem d_Me_turnQuarter_97 : decode b_Me_turnQuarter 97 = .ok (.getfield 15, 3) := by decide +kernel
theorem d_Me_turnQuarter_100 : decode b_Me_turnQuarter 100 = .ok (.iload_n 2, 1) := by decide +kernel
theorem d_Me_turnQuarter_101 : decode b_Me_turnQuarter 101 = .ok (.iload_n 3, 1) := by decide +kernel
theorem d_Me_turnQuarter_102 : decode b_Me_turnQuarter 102 = .ok (.iastore, 1) := by decide +kernel
theorem d_Me_turnQuarter_103 : decode b_Me_turnQuarter 103 = .ok (.iinc 2 1, 3) := by decide +kernel
theorem d_Me_turnQuarter_106 : decode b_Me_turnQuarter 106 = .ok (.goto (-104), 3) := by decide +kernel
theorem d_Me_turnQuarter_109 : decode b_Me_turnQuarter 109 = .ok (.return_, 1) := by decide +kernel
theorem d_Me_copyFrom_0 : decode b_Me_copyFrom 0 = .ok (.aload_n 0, 1) := by decide +kernel
theorem d_Me_copyFrom_1 : decode b_Me_copyFrom 1 = .ok (.aload_n 1, 1) := by decide +kernel
theorem d_Me_copyFrom_2 : decode b_Me_copyFrom 2 = .ok (.getfield 24, 3) := by decide +kernel
theorem d_Me_copyFrom_5 : decode b_Me_copyFrom 5 = .ok (.putfield 24, 3) := by decide +kernel
theorem d_Me_copyFrom_8 : decode b_Me_copyFrom 8 = .ok (.aload_n 0, 1) := by decide +kernel
theorem d_Me_copyFrom_9 : decode b_Me_copyFrom 9 = .ok (.aload_n 1, 1) := by decide +kernel
theorem d_Me_copyFrom_10 : decode b_Me_copyFrom 10 = .ok (.getfield 32, 3) := by decide +kernel
theorem d_Me_copyFrom_13 : decode b_Me_copyFrom 13 = .ok (.putfield 32, 3) := by decide +kernel
theorem d_Me_copyFrom_16 : decode b_Me_copyFrom 16 = .ok (.aload_n 1, 1) := by decide +kernel
theorem d_Me_copyFrom_17 : decode b_Me_copyFrom 17 = .ok (.getfield 9, 3) := by decide +kernel
theorem d_Me_copyFrom_20 : decode b_Me_copyFrom 20 = .ok (.iconst 0, 1) := by decide +kernel
theorem d_Me_copyFrom_21 : decode b_Me_copyFrom 21 = .ok (.aload_n 0, 1) := by decide +kernel
theorem d_Me_copyFrom_22 : decode b_Me_copyFrom 22 = .ok (.getfield 9, 3) := by decide +kernel
theorem d_Me_copyFrom_25 : decode b_Me_copyFrom 25 = .ok (.iconst 0, 1) := by decide +kernel
theorem d_Me_copyFrom_26 : decode b_Me_copyFrom 26 = .ok (.aload_n 0, 1) := by decide +kernel
theorem d_Me_copyFrom_27 : decode b_Me_copyFrom 27 = .ok (.getfield 24, 3) := by decide +kernel
theorem d_Me_copyFrom_30 : decode b_Me_copyFrom 30 = .ok (.invokestatic 48, 3) := by decide +kernel
theorem d_Me_copyFrom_33 : decode b_Me_copyFrom 33 = .ok (.aload_n 1, 1) := by decide +kernel
theorem d_Me_copyFrom_34 : decode b_Me_copyFrom 34 = .ok (.getfield 15, 3) := by decide +kernel
theorem d_Me_copyFrom_37 : decode b_Me_copyFrom 37 = .ok (.iconst 0, 1) := by decide +kernel
theorem d_Me_copyFrom_38 : decode b_Me_copyFrom 38 = .ok (.aload_n 0, 1) := by decide +kernel
theorem d_Me_copyFrom_39 : decode b_Me_copyFrom 39 = .ok (.getfield 15, 3) := by decide +kernel
theorem d_Me_copyFrom_42 : decode b_Me_copyFrom 42 = .ok (.iconst 0, 1) := by decide +kernel
theorem d_Me_copyFrom_43 : decode b_Me_copyFrom 43 = .ok (.aload_n 0, 1) := by decide +kernel
theorem d_Me_copyFrom_44 : decode b_Me_copyFrom 44 = .ok (.getfield 24, 3) := by decide +kernel
theorem d_Me_copyFrom_47 : decode b_Me_copyFrom 47 = .ok (.invokestatic 48, 3) := by decide +kernel
theorem d_Me_copyFrom_50 : decode b_Me_copyFrom 50 = .ok (.aload_n 1, 1) := by decide +kernel
theorem d_Me_copyFrom_51 : decode b_Me_copyFrom 51 = .ok (.getfield 18, 3) := by decide +kernel
theorem d_Me_copyFrom_54 : decode b_Me_copyFrom 54 = .ok (.iconst 0, 1) := by decide +kernel
theorem d_Me_copyFrom_55 : decode b_Me_copyFrom 55 = .ok (.aload_n 0, 1) := by decide +kernel
theorem d_Me_copyFrom_56 : decode b_Me_copyFrom 56 = .ok (.getfield 18, 3) := by decide +kernel
theorem d_Me_copyFrom_59 : decode b_Me_copyFrom 59 = .ok (.iconst 0, 1) := by decide +kernel
theorem d_Me_copyFrom_60 : decode b_Me_copyFrom 60 = .ok (.aload_n 0, 1) := by decide +kernel
theorem d_Me_copyFrom_61 : decode b_Me_copyFrom 61 = .ok (.getfield 24, 3) := by decide +kernel
theorem d_Me_copyFrom_64 : decode b_Me_copyFrom 64 = .ok (.invokestatic 48, 3) := by decide +kernel
theorem d_Me_copyFrom_67 : decode b_Me_copyFrom 67 = .ok (.aload_n 1, 1) := by decide +kernel
theorem d_Me_copyFrom_68 : decode b_Me_copyFrom 68 = .ok (.getfield 21, 3) := by decide +kernel
theorem d_Me_copyFrom_71 : decode b_Me_copyFrom 71 = .ok (.iconst 0, 1) := by decide +kernel
theorem d_Me_copyFrom_72 : decode b_Me_copyFrom 72 = .ok (.aload_n 0, 1) := by decide +kernel
theorem d_Me_copyFrom_73 : decode b_Me_copyFrom 73 = .ok (.getfield 21, 3) := by decide +kernel
theorem d_Me_copyFrom_76 : decode b_Me_copyFrom 76 = .ok (.iconst 0, 1) := by decide +kernel
theorem d_Me_copyFrom_77 : decode b_Me_copyFrom 77 = .ok (.iconst 3, 1) := by decide +kernel
theorem d_Me_copyFrom_78 : decode b_Me_copyFrom 78 = .ok (.aload_n 0, 1) := by decide +kernel
theorem d_Me_copyFrom_79 : decode b_Me_copyFrom 79 = .ok (.getfield 32, 3) := by decide +kernel
theorem d_Me_copyFrom_82 : decode b_Me_copyFrom 82 = .ok (.imul, 1) := by decide +kernel
theorem d_Me_copyFrom_83 : decode b_Me_copyFrom 83 = .ok (.invokestatic 48, 3) := by decide +kernel
theorem d_Me_copyFrom_86 : decode b_Me_copyFrom 86 = .ok (.return_, 1) := by decide +kernel
theorem d_Me_greatestZ_0 : decode b_Me_greatestZ 0 = .ok (.iconst 0, 1) := by decide +kernel
theorem d_Me_greatestZ_1 : decode b_Me_greatestZ 1 = .ok (.istore_n 1, 1) := by decide +kernel
theorem d_Me_greatestZ_2 : decode b_Me_greatestZ 2 = .ok (.iconst 0, 1) := by decide +kernel
theorem d_Me_greatestZ_3 : decode b_Me_greatestZ 3 = .ok (.istore_n 2, 1) := by decide +kernel
theorem d_Me_greatestZ_4 : decode b_Me_greatestZ 4 = .ok (.iload_n 2, 1) := by decide +kernel
theorem d_Me_greatestZ_5 : decode b_Me_greatestZ 5 = .ok (.iconst 3, 1) := by decide +kernel
theorem d_Me_greatestZ_6 : decode b_Me_greatestZ 6 = .ok (.aload_n 0, 1) := by decide +kernel
theorem d_Me_greatestZ_7 : decode b_Me_greatestZ 7 = .ok (.getfield 32, 3) := by decide +kernel
theorem d_Me_greatestZ_10 : decode b_Me_greatestZ 10 = .ok (.imul, 1) := by decide +kernel
theorem d_Me_greatestZ_11 : decode b_Me_greatestZ 11 = .ok (.if_icmp .ge 25, 3) := by decide +kernel
theorem d_Me_greatestZ_14 : decode b_Me_greatestZ 14 = .ok (.iload_n 1, 1) := by decide +kernel
theorem d_Me_greatestZ_15 : decode b_Me_greatestZ 15 = .ok (.aload_n 0, 1) := by decide +kernel
theorem d_Me_greatestZ_16 : decode b_Me_greatestZ 16 = .ok (.getfield 18, 3) := by decide +kernel
theorem d_Me_greatestZ_19 : decode b_Me_greatestZ 19 = .ok (.aload_n 0, 1) := by decide +kernel
theorem d_Me_greatestZ_20 : decode b_Me_greatestZ 20 = .ok (.getfield 21, 3) := by decide +kernel
theorem d_Me_greatestZ_23 : decode b_Me_greatestZ 23 = .ok (.iload_n 2, 1) := by decide +kernel
theorem d_Me_greatestZ_24 : decode b_Me_greatestZ 24 = .ok (.iaload, 1) := by decide +kernel
theorem d_Me_greatestZ_25 : decode b_Me_greatestZ 25 = .ok (.iaload, 1) := by decide +kernel
theorem d_Me_greatestZ_26 : decode b_Me_greatestZ 26 = .ok (.invokestatic 42, 3) := by decide +kernel
theorem d_Me_greatestZ_29 : decode b_Me_greatestZ 29 = .ok (.istore_n 1, 1) := by decide +kernel
theorem d_Me_greatestZ_30 : decode b_Me_greatestZ 30 = .ok (.iinc 2 1, 3) := by decide +kernel
theorem d_Me_greatestZ_33 : decode b_Me_greatestZ 33 = .ok (.goto (-29), 3) := by decide +kernel
theorem d_Me_greatestZ_36 : decode b_Me_greatestZ 36 = .ok (.iload_n 1, 1) := by decide +kernel
theorem d_Me_greatestZ_37 : decode b_Me_greatestZ 37 = .ok (.ireturn, 1) := by decide +kernel
theorem d_Me_init_0 : decode b_Me_init 0 = .ok (.aload_n 0, 1) := by decide +kernel
theorem d_Me_init_1 : decode b_Me_init 1 = .ok (.invokespecial 3, 3) := by decide +kernel
theorem d_Me_init_4 : decode b_Me_init 4 = .ok (.aload_n 0, 1) := by decide +kernel
theorem d_Me_init_5 : decode b_Me_init 5 = .ok (.bipush 80, 2) := by decide +kernel
theorem d_Me_init_7 : decode b_Me_init 7 = .ok (.newarray .int, 2) := by decide +kernel
theorem d_Me_init_9 : decode b_Me_init 9 = .ok (.putfield 9, 3) := by decide +kernel
theorem d_Me_init_12 : decode b_Me_init 12 = .ok (.aload_n 0, 1) := by decide +kernel
theorem d_Me_init_13 : decode b_Me_init 13 = .ok (.bipush 80, 2) := by decide +kernel
theorem d_Me_init_15 : decode b_Me_init 15 = .ok (.newarray .int, 2) := by decide +kernel
theorem d_Me_init_17 : decode b_Me_init 17 = .ok (.putfield 15, 3) := by decide +kernel
theorem d_Me_init_20 : decode b_Me_init 20 = .ok (.aload_n 0, 1) := by decide +kernel
theorem d_Me_init_21 : decode b_Me_init 21 = .ok (.bipush 80, 2) := by decide +kernel
theorem d_Me_init_23 : decode b_Me_init 23 = .ok (.newarray .int, 2) := by decide +kernel
theorem d_Me_init_25 : decode b_Me_init 25 = .ok (.putfield 18, 3) := by decide +kernel
theorem d_Me_init_28 : decode b_Me_init 28 = .ok (.aload_n 0, 1) := by decide +kernel
theorem d_Me_init_29 : decode b_Me_init 29 = .ok (.sipush 360, 3) := by decide +kernel
theorem d_Me_init_32 : decode b_Me_init 32 = .ok (.newarray .int, 2) := by decide +kernel
theorem d_Me_init_34 : decode b_Me_init 34 = .ok (.putfield 21, 3) := by decide +kernel
theorem d_Me_init_37 : decode b_Me_init 37 = .ok (.return_, 1) := by decide +kernel
