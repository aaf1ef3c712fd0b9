theorem d_Mn_openInAll_0 : decode b_Mn_openInAll 0 = .ok (.iconst 0, 1) := by decide +kernel
theorem d_Mn_openInAll_1 : decode b_Mn_openInAll 1 = .ok (.istore_n 2, 1) := by decide +kernel
theorem d_Mn_openInAll_2 : decode b_Mn_openInAll 2 = .ok (.iconst 0, 1) := by decide +kernel
theorem d_Mn_openInAll_3 : decode b_Mn_openInAll 3 = .ok (.istore_n 3, 1) := by decide +kernel
theorem d_Mn_openInAll_4 : decode b_Mn_openInAll 4 = .ok (.iload_n 3, 1) := by decide +kernel
theorem d_Mn_openInAll_5 : decode b_Mn_openInAll 5 = .ok (.iload_n 1, 1) := by decide +kernel
theorem d_Mn_openInAll_6 : decode b_Mn_openInAll 6 = .ok (.if_icmp .ge 18, 3) := by decide +kernel
theorem d_Mn_openInAll_9 : decode b_Mn_openInAll 9 = .ok (.iload_n 2, 1) := by decide +kernel
theorem d_Mn_openInAll_10 : decode b_Mn_openInAll 10 = .ok (.aload_n 0, 1) := by decide +kernel
theorem d_Mn_openInAll_11 : decode b_Mn_openInAll 11 = .ok (.getfield 22, 3) := by decide +kernel
theorem d_Mn_openInAll_14 : decode b_Mn_openInAll 14 = .ok (.iload_n 3, 1) := by decide +kernel
theorem d_Mn_openInAll_15 : decode b_Mn_openInAll 15 = .ok (.iaload, 1) := by decide +kernel
theorem d_Mn_openInAll_16 : decode b_Mn_openInAll 16 = .ok (.iadd, 1) := by decide +kernel
theorem d_Mn_openInAll_17 : decode b_Mn_openInAll 17 = .ok (.istore_n 2, 1) := by decide +kernel
theorem d_Mn_openInAll_18 : decode b_Mn_openInAll 18 = .ok (.iinc 3 1, 3) := by decide +kernel
theorem d_Mn_openInAll_21 : decode b_Mn_openInAll 21 = .ok (.goto (-17), 3) := by decide +kernel
theorem d_Mn_openInAll_24 : decode b_Mn_openInAll 24 = .ok (.iload_n 2, 1) := by decide +kernel
theorem d_Mn_openInAll_25 : decode b_Mn_openInAll 25 = .ok (.ireturn, 1) := by decide +kernel
theorem d_Mn_mendMesh_0 : decode b_Mn_mendMesh 0 = .ok (.aload_n 0, 1) := by decide +kernel
theorem d_Mn_mendMesh_1 : decode b_Mn_mendMesh 1 = .ok (.aload_n 1, 1) := by decide +kernel
theorem d_Mn_mendMesh_2 : decode b_Mn_mendMesh 2 = .ok (.invokevirtual 28, 3) := by decide +kernel
theorem d_Mn_mendMesh_5 : decode b_Mn_mendMesh 5 = .ok (.aload_n 0, 1) := by decide +kernel
theorem d_Mn_mendMesh_6 : decode b_Mn_mendMesh 6 = .ok (.aload_n 1, 1) := by decide +kernel
theorem d_Mn_mendMesh_7 : decode b_Mn_mendMesh 7 = .ok (.invokevirtual 32, 3) := by decide +kernel
theorem d_Mn_mendMesh_10 : decode b_Mn_mendMesh 10 = .ok (.aload_n 0, 1) := by decide +kernel
theorem d_Mn_mendMesh_11 : decode b_Mn_mendMesh 11 = .ok (.aload_n 1, 1) := by decide +kernel
theorem d_Mn_mendMesh_12 : decode b_Mn_mendMesh 12 = .ok (.invokevirtual 35, 3) := by decide +kernel
theorem d_Mn_mendMesh_15 : decode b_Mn_mendMesh 15 = .ok (.iconst 1, 1) := by decide +kernel
theorem d_Mn_mendMesh_16 : decode b_Mn_mendMesh 16 = .ok (.istore_n 2, 1) := by decide +kernel
theorem d_Mn_mendMesh_17 : decode b_Mn_mendMesh 17 = .ok (.iconst 0, 1) := by decide +kernel
theorem d_Mn_mendMesh_18 : decode b_Mn_mendMesh 18 = .ok (.istore_n 3, 1) := by decide +kernel
theorem d_Mn_mendMesh_19 : decode b_Mn_mendMesh 19 = .ok (.iload_n 2, 1) := by decide +kernel
theorem d_Mn_mendMesh_20 : decode b_Mn_mendMesh 20 = .ok (.ifCond .eq 21, 3) := by decide +kernel
theorem d_Mn_mendMesh_23 : decode b_Mn_mendMesh 23 = .ok (.iload_n 3, 1) := by decide +kernel
theorem d_Mn_mendMesh_24 : decode b_Mn_mendMesh 24 = .ok (.bipush 120, 2) := by decide +kernel
theorem d_Mn_mendMesh_26 : decode b_Mn_mendMesh 26 = .ok (.if_icmp .ge 15, 3) := by decide +kernel
theorem d_Mn_mendMesh_29 : decode b_Mn_mendMesh 29 = .ok (.aload_n 0, 1) := by decide +kernel
theorem d_Mn_mendMesh_30 : decode b_Mn_mendMesh 30 = .ok (.aload_n 1, 1) := by decide +kernel
theorem d_Mn_mendMesh_31 : decode b_Mn_mendMesh 31 = .ok (.invokevirtual 38, 3) := by decide +kernel
theorem d_Mn_mendMesh_34 : decode b_Mn_mendMesh 34 = .ok (.istore_n 2, 1) := by decide +kernel
theorem d_Mn_mendMesh_35 : decode b_Mn_mendMesh 35 = .ok (.iinc 3 1, 3) := by decide +kernel
theorem d_Mn_mendMesh_38 : decode b_Mn_mendMesh 38 = .ok (.goto (-19), 3) := by decide +kernel
theorem d_Mn_mendMesh_41 : decode b_Mn_mendMesh 41 = .ok (.aload_n 0, 1) := by decide +kernel
theorem d_Mn_mendMesh_42 : decode b_Mn_mendMesh 42 = .ok (.aload_n 1, 1) := by decide +kernel
theorem d_Mn_mendMesh_43 : decode b_Mn_mendMesh 43 = .ok (.getfield 42, 3) := by decide +kernel
theorem d_Mn_mendMesh_46 : decode b_Mn_mendMesh 46 = .ok (.invokevirtual 48, 3) := by decide +kernel
theorem d_Mn_mendMesh_49 : decode b_Mn_mendMesh 49 = .ok (.ireturn, 1) := by decide +kernel
theorem d_Mn_init_0 : decode b_Mn_init 0 = .ok (.aload_n 0, 1) := by decide +kernel
theorem d_Mn_init_1 : decode b_Mn_init 1 = .ok (.invokespecial 3, 3) := by decide +kernel
theorem d_Mn_init_4 : decode b_Mn_init 4 = .ok (.aload_n 0, 1) := by decide +kernel
theorem d_Mn_init_5 : decode b_Mn_init 5 = .ok (.bipush 80, 2) := by decide +kernel
theorem d_Mn_init_7 : decode b_Mn_init 7 = .ok (.newarray .int, 2) := by decide +kernel
theorem d_Mn_init_9 : decode b_Mn_init 9 = .ok (.putfield 9, 3) := by decide +kernel
theorem d_Mn_init_12 : decode b_Mn_init 12 = .ok (.aload_n 0, 1) := by decide +kernel
theorem d_Mn_init_13 : decode b_Mn_init 13 = .ok (.bipush 80, 2) := by decide +kernel
theorem d_Mn_init_15 : decode b_Mn_init 15 = .ok (.newarray .boolean, 2) := by decide +kernel
theorem d_Mn_init_17 : decode b_Mn_init 17 = .ok (.putfield 15, 3) := by decide +kernel
theorem d_Mn_init_20 : decode b_Mn_init 20 = .ok (.aload_n 0, 1) := by decide +kernel
theorem d_Mn_init_21 : decode b_Mn_init 21 = .ok (.sipush 6400, 3) := by decide +kernel
theorem d_Mn_init_24 : decode b_Mn_init 24 = .ok (.newarray .int, 2) := by decide +kernel
theorem d_Mn_init_26 : decode b_Mn_init 26 = .ok (.putfield 19, 3) := by decide +kernel
theorem d_Mn_init_29 : decode b_Mn_init 29 = .ok (.aload_n 0, 1) := by decide +kernel
theorem d_Mn_init_30 : decode b_Mn_init 30 = .ok (.bipush 80, 2) := by decide +kernel
theorem d_Mn_init_32 : decode b_Mn_init 32 = .ok (.newarray .int, 2) := by decide +kernel
theorem d_Mn_init_34 : decode b_Mn_init 34 = .ok (.putfield 22, 3) := by decide +kernel
theorem d_Mn_init_37 : decode b_Mn_init 37 = .ok (.aload_n 0, 1) := by decide +kernel
theorem d_Mn_init_38 : decode b_Mn_init 38 = .ok (.bipush 16, 2) := by decide +kernel
theorem d_Mn_init_40 : decode b_Mn_init 40 = .ok (.newarray .int, 2) := by decide +kernel
theorem d_Mn_init_42 : decode b_Mn_init 42 = .ok (.putfield 25, 3) := by decide +kernel
theorem d_Mn_init_45 : decode b_Mn_init 45 = .ok (.return_, 1) := by decide +kernel
