theorem d_LS_init_0 : decode b_LS_init 0 = .ok (.aload_n 0, 1) := by decide +kernel
theorem d_LS_init_1 : decode b_LS_init 1 = .ok (.invokespecial 3, 3) := by decide +kernel
theorem d_LS_init_4 : decode b_LS_init 4 = .ok (.aload_n 0, 1) := by decide +kernel
theorem d_LS_init_5 : decode b_LS_init 5 = .ok (.new 9, 3) := by decide +kernel
theorem d_LS_init_8 : decode b_LS_init 8 = .ok (.dup, 1) := by decide +kernel
theorem d_LS_init_9 : decode b_LS_init 9 = .ok (.invokespecial 11, 3) := by decide +kernel
theorem d_LS_init_12 : decode b_LS_init 12 = .ok (.putfield 12, 3) := by decide +kernel
theorem d_LS_init_15 : decode b_LS_init 15 = .ok (.aload_n 0, 1) := by decide +kernel
theorem d_LS_init_16 : decode b_LS_init 16 = .ok (.new 16, 3) := by decide +kernel
theorem d_LS_init_19 : decode b_LS_init 19 = .ok (.dup, 1) := by decide +kernel
theorem d_LS_init_20 : decode b_LS_init 20 = .ok (.invokespecial 18, 3) := by decide +kernel
theorem d_LS_init_23 : decode b_LS_init 23 = .ok (.putfield 19, 3) := by decide +kernel
theorem d_LS_init_26 : decode b_LS_init 26 = .ok (.aload_n 0, 1) := by decide +kernel
theorem d_LS_init_27 : decode b_LS_init 27 = .ok (.new 23, 3) := by decide +kernel
theorem d_LS_init_30 : decode b_LS_init 30 = .ok (.dup, 1) := by decide +kernel
theorem d_LS_init_31 : decode b_LS_init 31 = .ok (.invokespecial 25, 3) := by decide +kernel
theorem d_LS_init_34 : decode b_LS_init 34 = .ok (.putfield 26, 3) := by decide +kernel
theorem d_LS_init_37 : decode b_LS_init 37 = .ok (.aload_n 0, 1) := by decide +kernel
theorem d_LS_init_38 : decode b_LS_init 38 = .ok (.new 30, 3) := by decide +kernel
theorem d_LS_init_41 : decode b_LS_init 41 = .ok (.dup, 1) := by decide +kernel
theorem d_LS_init_42 : decode b_LS_init 42 = .ok (.invokespecial 32, 3) := by decide +kernel
theorem d_LS_init_45 : decode b_LS_init 45 = .ok (.putfield 33, 3) := by decide +kernel
theorem d_LS_init_48 : decode b_LS_init 48 = .ok (.aload_n 0, 1) := by decide +kernel
theorem d_LS_init_49 : decode b_LS_init 49 = .ok (.new 37, 3) := by decide +kernel
theorem d_LS_init_52 : decode b_LS_init 52 = .ok (.dup, 1) := by decide +kernel
theorem d_LS_init_53 : decode b_LS_init 53 = .ok (.invokespecial 39, 3) := by decide +kernel
theorem d_LS_init_56 : decode b_LS_init 56 = .ok (.putfield 40, 3) := by decide +kernel
theorem d_LS_init_59 : decode b_LS_init 59 = .ok (.aload_n 0, 1) := by decide +kernel
theorem d_LS_init_60 : decode b_LS_init 60 = .ok (.new 44, 3) := by decide +kernel
theorem d_LS_init_63 : decode b_LS_init 63 = .ok (.dup, 1) := by decide +kernel
theorem d_LS_init_64 : decode b_LS_init 64 = .ok (.invokespecial 46, 3) := by decide +kernel
theorem d_LS_init_67 : decode b_LS_init 67 = .ok (.putfield 47, 3) := by decide +kernel
theorem d_LS_init_70 : decode b_LS_init 70 = .ok (.return_, 1) := by decide +kernel
