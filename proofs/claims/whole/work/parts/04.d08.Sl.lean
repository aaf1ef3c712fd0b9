theorem d_Sl_hasRow_0 : decode b_Sl_hasRow 0 = .ok (.aload_n 0, 1) := by decide +kernel
theorem d_Sl_hasRow_1 : decode b_Sl_hasRow 1 = .ok (.iload_n 1, 1) := by decide +kernel
theorem d_Sl_hasRow_2 : decode b_Sl_hasRow 2 = .ok (.invokevirtual 48, 3) := by decide +kernel
theorem d_Sl_hasRow_5 : decode b_Sl_hasRow 5 = .ok (.ifCond .eq 17, 3) := by decide +kernel
theorem d_Sl_hasRow_8 : decode b_Sl_hasRow 8 = .ok (.iload_n 2, 1) := by decide +kernel
theorem d_Sl_hasRow_9 : decode b_Sl_hasRow 9 = .ok (.ifCond .lt 13, 3) := by decide +kernel
theorem d_Sl_hasRow_12 : decode b_Sl_hasRow 12 = .ok (.iload_n 2, 1) := by decide +kernel
theorem d_Sl_hasRow_13 : decode b_Sl_hasRow 13 = .ok (.bipush 12, 2) := by decide +kernel
theorem d_Sl_hasRow_15 : decode b_Sl_hasRow 15 = .ok (.if_icmp .ge 7, 3) := by decide +kernel
theorem d_Sl_hasRow_18 : decode b_Sl_hasRow 18 = .ok (.iconst 1, 1) := by decide +kernel
theorem d_Sl_hasRow_19 : decode b_Sl_hasRow 19 = .ok (.goto 4, 3) := by decide +kernel
theorem d_Sl_hasRow_22 : decode b_Sl_hasRow 22 = .ok (.iconst 0, 1) := by decide +kernel
theorem d_Sl_hasRow_23 : decode b_Sl_hasRow 23 = .ok (.ireturn, 1) := by decide +kernel
theorem d_Sl_solidRow_0 : decode b_Sl_solidRow 0 = .ok (.aload_n 0, 1) := by decide +kernel
theorem d_Sl_solidRow_1 : decode b_Sl_solidRow 1 = .ok (.iload_n 1, 1) := by decide +kernel
theorem d_Sl_solidRow_2 : decode b_Sl_solidRow 2 = .ok (.iload_n 2, 1) := by decide +kernel
theorem d_Sl_solidRow_3 : decode b_Sl_solidRow 3 = .ok (.invokevirtual 52, 3) := by decide +kernel
theorem d_Sl_solidRow_6 : decode b_Sl_solidRow 6 = .ok (.ifCond .eq 17, 3) := by decide +kernel
theorem d_Sl_solidRow_9 : decode b_Sl_solidRow 9 = .ok (.aload_n 0, 1) := by decide +kernel
theorem d_Sl_solidRow_10 : decode b_Sl_solidRow 10 = .ok (.getfield 22, 3) := by decide +kernel
theorem d_Sl_solidRow_13 : decode b_Sl_solidRow 13 = .ok (.iload_n 1, 1) := by decide +kernel
theorem d_Sl_solidRow_14 : decode b_Sl_solidRow 14 = .ok (.bipush 12, 2) := by decide +kernel
theorem d_Sl_solidRow_16 : decode b_Sl_solidRow 16 = .ok (.imul, 1) := by decide +kernel
theorem d_Sl_solidRow_17 : decode b_Sl_solidRow 17 = .ok (.iload_n 2, 1) := by decide +kernel
theorem d_Sl_solidRow_18 : decode b_Sl_solidRow 18 = .ok (.iadd, 1) := by decide +kernel
theorem d_Sl_solidRow_19 : decode b_Sl_solidRow 19 = .ok (.iaload, 1) := by decide +kernel
theorem d_Sl_solidRow_20 : decode b_Sl_solidRow 20 = .ok (.goto 4, 3) := by decide +kernel
theorem d_Sl_solidRow_23 : decode b_Sl_solidRow 23 = .ok (.iconst 0, 1) := by decide +kernel
theorem d_Sl_solidRow_24 : decode b_Sl_solidRow 24 = .ok (.ireturn, 1) := by decide +kernel
theorem d_Sl_rowAmongSolid_0 : decode b_Sl_rowAmongSolid 0 = .ok (.sipush 4095, 3) := by decide +kernel
theorem d_Sl_rowAmongSolid_3 : decode b_Sl_rowAmongSolid 3 = .ok (.istore 4, 2) := by decide +kernel
theorem d_Sl_rowAmongSolid_5 : decode b_Sl_rowAmongSolid 5 = .ok (.iload_n 3, 1) := by decide +kernel
theorem d_Sl_rowAmongSolid_6 : decode b_Sl_rowAmongSolid 6 = .ok (.ineg, 1) := by decide +kernel
theorem d_Sl_rowAmongSolid_7 : decode b_Sl_rowAmongSolid 7 = .ok (.istore 5, 2) := by decide +kernel
theorem d_Sl_rowAmongSolid_9 : decode b_Sl_rowAmongSolid 9 = .ok (.iload 5, 2) := by decide +kernel
theorem d_Sl_rowAmongSolid_11 : decode b_Sl_rowAmongSolid 11 = .ok (.iload_n 3, 1) := by decide +kernel
theorem d_Sl_rowAmongSolid_12 : decode b_Sl_rowAmongSolid 12 = .ok (.if_icmp .gt 51, 3) := by decide +kernel
theorem d_Sl_rowAmongSolid_15 : decode b_Sl_rowAmongSolid 15 = .ok (.aload_n 0, 1) := by decide +kernel
theorem d_Sl_rowAmongSolid_16 : decode b_Sl_rowAmongSolid 16 = .ok (.iload_n 1, 1) := by decide +kernel
theorem d_Sl_rowAmongSolid_17 : decode b_Sl_rowAmongSolid 17 = .ok (.iload_n 2, 1) := by decide +kernel
theorem d_Sl_rowAmongSolid_18 : decode b_Sl_rowAmongSolid 18 = .ok (.iload 5, 2) := by decide +kernel
theorem d_Sl_rowAmongSolid_20 : decode b_Sl_rowAmongSolid 20 = .ok (.iadd, 1) := by decide +kernel
theorem d_Sl_rowAmongSolid_21 : decode b_Sl_rowAmongSolid 21 = .ok (.invokevirtual 56, 3) := by decide +kernel
theorem d_Sl_rowAmongSolid_24 : decode b_Sl_rowAmongSolid 24 = .ok (.istore 6, 2) := by decide +kernel
theorem d_Sl_rowAmongSolid_26 : decode b_Sl_rowAmongSolid 26 = .ok (.iconst 0, 1) := by decide +kernel
theorem d_Sl_rowAmongSolid_27 : decode b_Sl_rowAmongSolid 27 = .ok (.istore 7, 2) := by decide +kernel
theorem d_Sl_rowAmongSolid_29 : decode b_Sl_rowAmongSolid 29 = .ok (.iload 7, 2) := by decide +kernel
theorem d_Sl_rowAmongSolid_31 : decode b_Sl_rowAmongSolid 31 = .ok (.iload_n 3, 1) := by decide +kernel
theorem d_Sl_rowAmongSolid_32 : decode b_Sl_rowAmongSolid 32 = .ok (.if_icmp .gt 25, 3) := by decide +kernel
theorem d_Sl_rowAmongSolid_35 : decode b_Sl_rowAmongSolid 35 = .ok (.iload 4, 2) := by decide +kernel
theorem d_Sl_rowAmongSolid_37 : decode b_Sl_rowAmongSolid 37 = .ok (.iload 6, 2) := by decide +kernel
theorem d_Sl_rowAmongSolid_39 : decode b_Sl_rowAmongSolid 39 = .ok (.iload 7, 2) := by decide +kernel
theorem d_Sl_rowAmongSolid_41 : decode b_Sl_rowAmongSolid 41 = .ok (.ishr, 1) := by decide +kernel
theorem d_Sl_rowAmongSolid_42 : decode b_Sl_rowAmongSolid 42 = .ok (.iload 6, 2) := by decide +kernel
theorem d_Sl_rowAmongSolid_44 : decode b_Sl_rowAmongSolid 44 = .ok (.iload 7, 2) := by decide +kernel
theorem d_Sl_rowAmongSolid_46 : decode b_Sl_rowAmongSolid 46 = .ok (.ishl, 1) := by decide +kernel
theorem d_Sl_rowAmongSolid_47 : decode b_Sl_rowAmongSolid 47 = .ok (.iand, 1) := by decide +kernel
theorem d_Sl_rowAmongSolid_48 : decode b_Sl_rowAmongSolid 48 = .ok (.iand, 1) := by decide +kernel
theorem d_Sl_rowAmongSolid_49 : decode b_Sl_rowAmongSolid 49 = .ok (.istore 4, 2) := by decide +kernel
theorem d_Sl_rowAmongSolid_51 : decode b_Sl_rowAmongSolid 51 = .ok (.iinc 7 1, 3) := by decide +kernel
theorem d_Sl_rowAmongSolid_54 : decode b_Sl_rowAmongSolid 54 = .ok (.goto (-25), 3) := by decide +kernel
theorem d_Sl_rowAmongSolid_57 : decode b_Sl_rowAmongSolid 57 = .ok (.iinc 5 1, 3) := by decide +kernel
theorem d_Sl_rowAmongSolid_60 : decode b_Sl_rowAmongSolid 60 = .ok (.goto (-51), 3) := by decide +kernel
theorem d_Sl_rowAmongSolid_63 : decode b_Sl_rowAmongSolid 63 = .ok (.iload 4, 2) := by decide +kernel
theorem d_Sl_rowAmongSolid_65 : decode b_Sl_rowAmongSolid 65 = .ok (.ireturn, 1) := by decide +kernel
theorem d_Sl_rowNearSolid_0 : decode b_Sl_rowNearSolid 0 = .ok (.iconst 0, 1) := by decide +kernel
theorem d_Sl_rowNearSolid_1 : decode b_Sl_rowNearSolid 1 = .ok (.istore 4, 2) := by decide +kernel
theorem d_Sl_rowNearSolid_3 : decode b_Sl_rowNearSolid 3 = .ok (.iload_n 3, 1) := by decide +kernel
theorem d_Sl_rowNearSolid_4 : decode b_Sl_rowNearSolid 4 = .ok (.ineg, 1) := by decide +kernel
theorem d_Sl_rowNearSolid_5 : decode b_Sl_rowNearSolid 5 = .ok (.istore 5, 2) := by decide +kernel
theorem d_Sl_rowNearSolid_7 : decode b_Sl_rowNearSolid 7 = .ok (.iload 5, 2) := by decide +kernel
theorem d_Sl_rowNearSolid_9 : decode b_Sl_rowNearSolid 9 = .ok (.iload_n 3, 1) := by decide +kernel
theorem d_Sl_rowNearSolid_10 : decode b_Sl_rowNearSolid 10 = .ok (.if_icmp .gt 51, 3) := by decide +kernel
theorem d_Sl_rowNearSolid_13 : decode b_Sl_rowNearSolid 13 = .ok (.aload_n 0, 1) := by decide +kernel
theorem d_Sl_rowNearSolid_14 : decode b_Sl_rowNearSolid 14 = .ok (.iload_n 1, 1) := by decide +kernel
theorem d_Sl_rowNearSolid_15 : decode b_Sl_rowNearSolid 15 = .ok (.iload_n 2, 1) := by decide +kernel
theorem d_Sl_rowNearSolid_16 : decode b_Sl_rowNearSolid 16 = .ok (.iload 5, 2) := by decide +kernel
theorem d_Sl_rowNearSolid_18 : decode b_Sl_rowNearSolid 18 = .ok (.iadd, 1) := by decide +kernel
theorem d_Sl_rowNearSolid_19 : decode b_Sl_rowNearSolid 19 = .ok (.invokevirtual 56, 3) := by decide +kernel
theorem d_Sl_rowNearSolid_22 : decode b_Sl_rowNearSolid 22 = .ok (.istore 6, 2) := by decide +kernel
theorem d_Sl_rowNearSolid_24 : decode b_Sl_rowNearSolid 24 = .ok (.iconst 0, 1) := by decide +kernel
theorem d_Sl_rowNearSolid_25 : decode b_Sl_rowNearSolid 25 = .ok (.istore 7, 2) := by decide +kernel
theorem d_Sl_rowNearSolid_27 : decode b_Sl_rowNearSolid 27 = .ok (.iload 7, 2) := by decide +kernel
theorem d_Sl_rowNearSolid_29 : decode b_Sl_rowNearSolid 29 = .ok (.iload_n 3, 1) := by decide +kernel
theorem d_Sl_rowNearSolid_30 : decode b_Sl_rowNearSolid 30 = .ok (.if_icmp .gt 25, 3) := by decide +kernel
theorem d_Sl_rowNearSolid_33 : decode b_Sl_rowNearSolid 33 = .ok (.iload 4, 2) := by decide +kernel
theorem d_Sl_rowNearSolid_35 : decode b_Sl_rowNearSolid 35 = .ok (.iload 6, 2) := by decide +kernel
theorem d_Sl_rowNearSolid_37 : decode b_Sl_rowNearSolid 37 = .ok (.iload 7, 2) := by decide +kernel
theorem d_Sl_rowNearSolid_39 : decode b_Sl_rowNearSolid 39 = .ok (.ishr, 1) := by decide +kernel
theorem d_Sl_rowNearSolid_40 : decode b_Sl_rowNearSolid 40 = .ok (.iload 6, 2) := by decide +kernel
theorem d_Sl_rowNearSolid_42 : decode b_Sl_rowNearSolid 42 = .ok (.iload 7, 2) := by decide +kernel
theorem d_Sl_rowNearSolid_44 : decode b_Sl_rowNearSolid 44 = .ok (.ishl, 1) := by decide +kernel
theorem d_Sl_rowNearSolid_45 : decode b_Sl_rowNearSolid 45 = .ok (.ior, 1) := by decide +kernel
theorem d_Sl_rowNearSolid_46 : decode b_Sl_rowNearSolid 46 = .ok (.ior, 1) := by decide +kernel
theorem d_Sl_rowNearSolid_47 : decode b_Sl_rowNearSolid 47 = .ok (.istore 4, 2) := by decide +kernel
theorem d_Sl_rowNearSolid_49 : decode b_Sl_rowNearSolid 49 = .ok (.iinc 7 1, 3) := by decide +kernel
theorem d_Sl_rowNearSolid_52 : decode b_Sl_rowNearSolid 52 = .ok (.goto (-25), 3) := by decide +kernel
theorem d_Sl_rowNearSolid_55 : decode b_Sl_rowNearSolid 55 = .ok (.iinc 5 1, 3) := by decide +kernel
theorem d_Sl_rowNearSolid_58 : decode b_Sl_rowNearSolid 58 = .ok (.goto (-51), 3) := by decide +kernel
theorem d_Sl_rowNearSolid_61 : decode b_Sl_rowNearSolid 61 = .ok (.iload 4, 2) := by decide +kernel
theorem d_Sl_rowNearSolid_63 : decode b_Sl_rowNearSolid 63 = .ok (.sipush 4095, 3) := by decide +kernel
theorem d_Sl_rowNearSolid_66 : decode b_Sl_rowNearSolid 66 = .ok (.iand, 1) := by decide +kernel
theorem d_Sl_rowNearSolid_67 : decode b_Sl_rowNearSolid 67 = .ok (.ireturn, 1) := by decide +kernel
theorem d_Sl_init_0 : decode b_Sl_init 0 = .ok (.aload_n 0, 1) := by decide +kernel
theorem d_Sl_init_1 : decode b_Sl_init 1 = .ok (.invokespecial 3, 3) := by decide +kernel
theorem d_Sl_init_4 : decode b_Sl_init 4 = .ok (.aload_n 0, 1) := by decide +kernel
theorem d_Sl_init_5 : decode b_Sl_init 5 = .ok (.bipush 6, 2) := by decide +kernel
theorem d_Sl_init_7 : decode b_Sl_init 7 = .ok (.newarray .int, 2) := by decide +kernel
theorem d_Sl_init_9 : decode b_Sl_init 9 = .ok (.putfield 9, 3) := by decide +kernel
theorem d_Sl_init_12 : decode b_Sl_init 12 = .ok (.aload_n 0, 1) := by decide +kernel
theorem d_Sl_init_13 : decode b_Sl_init 13 = .ok (.new 15, 3) := by decide +kernel
theorem d_Sl_init_16 : decode b_Sl_init 16 = .ok (.dup, 1) := by decide +kernel
theorem d_Sl_init_17 : decode b_Sl_init 17 = .ok (.invokespecial 17, 3) := by decide +kernel
theorem d_Sl_init_20 : decode b_Sl_init 20 = .ok (.putfield 18, 3) := by decide +kernel
theorem d_Sl_init_23 : decode b_Sl_init 23 = .ok (.aload_n 0, 1) := by decide +kernel
theorem d_Sl_init_24 : decode b_Sl_init 24 = .ok (.sipush 288, 3) := by decide +kernel
theorem d_Sl_init_27 : decode b_Sl_init 27 = .ok (.newarray .int, 2) := by decide +kernel
theorem d_Sl_init_29 : decode b_Sl_init 29 = .ok (.putfield 22, 3) := by decide +kernel
theorem d_Sl_init_32 : decode b_Sl_init 32 = .ok (.return_, 1) := by decide +kernel
