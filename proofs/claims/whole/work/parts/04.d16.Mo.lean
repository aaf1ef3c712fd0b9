theorem d_Mo_cut_0 : decode b_Mo_cut 0 = .ok (.iload_n 1, 1) := by decide +kernel
theorem d_Mo_cut_1 : decode b_Mo_cut 1 = .ok (.iconst 0, 1) := by decide +kernel
theorem d_Mo_cut_2 : decode b_Mo_cut 2 = .ok (.aload_n 0, 1) := by decide +kernel
theorem d_Mo_cut_3 : decode b_Mo_cut 3 = .ok (.getfield 116, 3) := by decide +kernel
theorem d_Mo_cut_6 : decode b_Mo_cut 6 = .ok (.iconst 1, 1) := by decide +kernel
theorem d_Mo_cut_7 : decode b_Mo_cut 7 = .ok (.isub, 1) := by decide +kernel
theorem d_Mo_cut_8 : decode b_Mo_cut 8 = .ok (.invokestatic 66, 3) := by decide +kernel
theorem d_Mo_cut_11 : decode b_Mo_cut 11 = .ok (.ifCond .eq 49, 3) := by decide +kernel
theorem d_Mo_cut_14 : decode b_Mo_cut 14 = .ok (.iload_n 2, 1) := by decide +kernel
theorem d_Mo_cut_15 : decode b_Mo_cut 15 = .ok (.iconst 0, 1) := by decide +kernel
theorem d_Mo_cut_16 : decode b_Mo_cut 16 = .ok (.aload_n 0, 1) := by decide +kernel
theorem d_Mo_cut_17 : decode b_Mo_cut 17 = .ok (.getfield 113, 3) := by decide +kernel
theorem d_Mo_cut_20 : decode b_Mo_cut 20 = .ok (.iconst 1, 1) := by decide +kernel
theorem d_Mo_cut_21 : decode b_Mo_cut 21 = .ok (.isub, 1) := by decide +kernel
theorem d_Mo_cut_22 : decode b_Mo_cut 22 = .ok (.invokestatic 66, 3) := by decide +kernel
theorem d_Mo_cut_25 : decode b_Mo_cut 25 = .ok (.ifCond .eq 35, 3) := by decide +kernel
theorem d_Mo_cut_28 : decode b_Mo_cut 28 = .ok (.iload_n 3, 1) := by decide +kernel
theorem d_Mo_cut_29 : decode b_Mo_cut 29 = .ok (.iconst 0, 1) := by decide +kernel
theorem d_Mo_cut_30 : decode b_Mo_cut 30 = .ok (.iconst 1, 1) := by decide +kernel
theorem d_Mo_cut_31 : decode b_Mo_cut 31 = .ok (.invokestatic 66, 3) := by decide +kernel
theorem d_Mo_cut_34 : decode b_Mo_cut 34 = .ok (.ifCond .eq 26, 3) := by decide +kernel
theorem d_Mo_cut_37 : decode b_Mo_cut 37 = .ok (.iload 4, 2) := by decide +kernel
theorem d_Mo_cut_39 : decode b_Mo_cut 39 = .ok (.iconst 0, 1) := by decide +kernel
theorem d_Mo_cut_40 : decode b_Mo_cut 40 = .ok (.iconst 2, 1) := by decide +kernel
theorem d_Mo_cut_41 : decode b_Mo_cut 41 = .ok (.invokestatic 66, 3) := by decide +kernel
theorem d_Mo_cut_44 : decode b_Mo_cut 44 = .ok (.ifCond .eq 16, 3) := by decide +kernel
theorem d_Mo_cut_47 : decode b_Mo_cut 47 = .ok (.aload_n 0, 1) := by decide +kernel
theorem d_Mo_cut_48 : decode b_Mo_cut 48 = .ok (.iload_n 1, 1) := by decide +kernel
theorem d_Mo_cut_49 : decode b_Mo_cut 49 = .ok (.iload_n 2, 1) := by decide +kernel
theorem d_Mo_cut_50 : decode b_Mo_cut 50 = .ok (.invokevirtual 138, 3) := by decide +kernel
theorem d_Mo_cut_53 : decode b_Mo_cut 53 = .ok (.ifCond .eq 7, 3) := by decide +kernel
theorem d_Mo_cut_56 : decode b_Mo_cut 56 = .ok (.iconst 1, 1) := by decide +kernel
theorem d_Mo_cut_57 : decode b_Mo_cut 57 = .ok (.goto 4, 3) := by decide +kernel
theorem d_Mo_cut_60 : decode b_Mo_cut 60 = .ok (.iconst 0, 1) := by decide +kernel
theorem d_Mo_cut_61 : decode b_Mo_cut 61 = .ok (.istore 5, 2) := by decide +kernel
theorem d_Mo_cut_63 : decode b_Mo_cut 63 = .ok (.aload_n 0, 1) := by decide +kernel
theorem d_Mo_cut_64 : decode b_Mo_cut 64 = .ok (.iload 5, 2) := by decide +kernel
theorem d_Mo_cut_66 : decode b_Mo_cut 66 = .ok (.ifCond .eq 7, 3) := by decide +kernel
theorem d_Mo_cut_69 : decode b_Mo_cut 69 = .ok (.iconst 0, 1) := by decide +kernel
theorem d_Mo_cut_70 : decode b_Mo_cut 70 = .ok (.goto 4, 3) := by decide +kernel
theorem d_Mo_cut_73 : decode b_Mo_cut 73 = .ok (.iconst 1, 1) := by decide +kernel
theorem d_Mo_cut_74 : decode b_Mo_cut 74 = .ok (.putfield 60, 3) := by decide +kernel
theorem d_Mo_cut_77 : decode b_Mo_cut 77 = .ok (.iload 5, 2) := by decide +kernel
theorem d_Mo_cut_79 : decode b_Mo_cut 79 = .ok (.ifCond .eq 15, 3) := by decide +kernel
theorem d_Mo_cut_82 : decode b_Mo_cut 82 = .ok (.aload_n 0, 1) := by decide +kernel
theorem d_Mo_cut_83 : decode b_Mo_cut 83 = .ok (.iload_n 1, 1) := by decide +kernel
theorem d_Mo_cut_84 : decode b_Mo_cut 84 = .ok (.iload_n 2, 1) := by decide +kernel
theorem d_Mo_cut_85 : decode b_Mo_cut 85 = .ok (.iload_n 3, 1) := by decide +kernel
theorem d_Mo_cut_86 : decode b_Mo_cut 86 = .ok (.iload 4, 2) := by decide +kernel
theorem d_Mo_cut_88 : decode b_Mo_cut 88 = .ok (.invokevirtual 141, 3) := by decide +kernel
theorem d_Mo_cut_91 : decode b_Mo_cut 91 = .ok (.goto 4, 3) := by decide +kernel
theorem d_Mo_cut_94 : decode b_Mo_cut 94 = .ok (.iconst 0, 1) := by decide +kernel
theorem d_Mo_cut_95 : decode b_Mo_cut 95 = .ok (.ireturn, 1) := by decide +kernel
theorem d_Mo_isSolid_0 : decode b_Mo_isSolid 0 = .ok (.iload_n 1, 1) := by decide +kernel
theorem d_Mo_isSolid_1 : decode b_Mo_isSolid 1 = .ok (.iconst 0, 1) := by decide +kernel
theorem d_Mo_isSolid_2 : decode b_Mo_isSolid 2 = .ok (.aload_n 0, 1) := by decide +kernel
theorem d_Mo_isSolid_3 : decode b_Mo_isSolid 3 = .ok (.getfield 116, 3) := by decide +kernel
theorem d_Mo_isSolid_6 : decode b_Mo_isSolid 6 = .ok (.iconst 1, 1) := by decide +kernel
theorem d_Mo_isSolid_7 : decode b_Mo_isSolid 7 = .ok (.isub, 1) := by decide +kernel
theorem d_Mo_isSolid_8 : decode b_Mo_isSolid 8 = .ok (.invokestatic 66, 3) := by decide +kernel
theorem d_Mo_isSolid_11 : decode b_Mo_isSolid 11 = .ok (.ifCond .eq 47, 3) := by decide +kernel
theorem d_Mo_isSolid_14 : decode b_Mo_isSolid 14 = .ok (.iload_n 2, 1) := by decide +kernel
theorem d_Mo_isSolid_15 : decode b_Mo_isSolid 15 = .ok (.iconst 0, 1) := by decide +kernel
theorem d_Mo_isSolid_16 : decode b_Mo_isSolid 16 = .ok (.bipush 11, 2) := by decide +kernel
theorem d_Mo_isSolid_18 : decode b_Mo_isSolid 18 = .ok (.invokestatic 66, 3) := by decide +kernel
theorem d_Mo_isSolid_21 : decode b_Mo_isSolid 21 = .ok (.ifCond .eq 37, 3) := by decide +kernel
theorem d_Mo_isSolid_24 : decode b_Mo_isSolid 24 = .ok (.iload_n 3, 1) := by decide +kernel
theorem d_Mo_isSolid_25 : decode b_Mo_isSolid 25 = .ok (.iconst 0, 1) := by decide +kernel
theorem d_Mo_isSolid_26 : decode b_Mo_isSolid 26 = .ok (.bipush 11, 2) := by decide +kernel
theorem d_Mo_isSolid_28 : decode b_Mo_isSolid 28 = .ok (.invokestatic 66, 3) := by decide +kernel
theorem d_Mo_isSolid_31 : decode b_Mo_isSolid 31 = .ok (.ifCond .eq 27, 3) := by decide +kernel
theorem d_Mo_isSolid_34 : decode b_Mo_isSolid 34 = .ok (.aload_n 0, 1) := by decide +kernel
theorem d_Mo_isSolid_35 : decode b_Mo_isSolid 35 = .ok (.getfield 31, 3) := by decide +kernel
theorem d_Mo_isSolid_38 : decode b_Mo_isSolid 38 = .ok (.sipush 144, 3) := by decide +kernel
theorem d_Mo_isSolid_41 : decode b_Mo_isSolid 41 = .ok (.iload_n 1, 1) := by decide +kernel
theorem d_Mo_isSolid_42 : decode b_Mo_isSolid 42 = .ok (.imul, 1) := by decide +kernel
theorem d_Mo_isSolid_43 : decode b_Mo_isSolid 43 = .ok (.bipush 12, 2) := by decide +kernel
theorem d_Mo_isSolid_45 : decode b_Mo_isSolid 45 = .ok (.iload_n 3, 1) := by decide +kernel
theorem d_Mo_isSolid_46 : decode b_Mo_isSolid 46 = .ok (.imul, 1) := by decide +kernel
theorem d_Mo_isSolid_47 : decode b_Mo_isSolid 47 = .ok (.iadd, 1) := by decide +kernel
theorem d_Mo_isSolid_48 : decode b_Mo_isSolid 48 = .ok (.iload_n 2, 1) := by decide +kernel
theorem d_Mo_isSolid_49 : decode b_Mo_isSolid 49 = .ok (.iadd, 1) := by decide +kernel
theorem d_Mo_isSolid_50 : decode b_Mo_isSolid 50 = .ok (.baload, 1) := by decide +kernel
theorem d_Mo_isSolid_51 : decode b_Mo_isSolid 51 = .ok (.ifCond .eq 7, 3) := by decide +kernel
theorem d_Mo_isSolid_54 : decode b_Mo_isSolid 54 = .ok (.iconst 1, 1) := by decide +kernel
theorem d_Mo_isSolid_55 : decode b_Mo_isSolid 55 = .ok (.goto 4, 3) := by decide +kernel
theorem d_Mo_isSolid_58 : decode b_Mo_isSolid 58 = .ok (.iconst 0, 1) := by decide +kernel
theorem d_Mo_isSolid_59 : decode b_Mo_isSolid 59 = .ok (.ireturn, 1) := by decide +kernel
theorem d_Mo_solid_0 : decode b_Mo_solid 0 = .ok (.aload_n 0, 1) := by decide +kernel
theorem d_Mo_solid_1 : decode b_Mo_solid 1 = .ok (.iconst 0, 1) := by decide +kernel
theorem d_Mo_solid_2 : decode b_Mo_solid 2 = .ok (.putfield 60, 3) := by decide +kernel
theorem d_Mo_solid_5 : decode b_Mo_solid 5 = .ok (.aload_n 0, 1) := by decide +kernel
theorem d_Mo_solid_6 : decode b_Mo_solid 6 = .ok (.iload_n 1, 1) := by decide +kernel
theorem d_Mo_solid_7 : decode b_Mo_solid 7 = .ok (.iload_n 2, 1) := by decide +kernel
theorem d_Mo_solid_8 : decode b_Mo_solid 8 = .ok (.iload_n 3, 1) := by decide +kernel
theorem d_Mo_solid_9 : decode b_Mo_solid 9 = .ok (.invokevirtual 155, 3) := by decide +kernel
theorem d_Mo_solid_12 : decode b_Mo_solid 12 = .ok (.ifCond .eq 7, 3) := by decide +kernel
theorem d_Mo_solid_15 : decode b_Mo_solid 15 = .ok (.iconst 1, 1) := by decide +kernel
theorem d_Mo_solid_16 : decode b_Mo_solid 16 = .ok (.goto 4, 3) := by decide +kernel
theorem d_Mo_solid_19 : decode b_Mo_solid 19 = .ok (.iconst 0, 1) := by decide +kernel
theorem d_Mo_solid_20 : decode b_Mo_solid 20 = .ok (.ireturn, 1) := by decide +kernel
theorem d_Mo_settings_0 : decode b_Mo_settings 0 = .ok (.aload_n 0, 1) := by decide +kernel
theorem d_Mo_settings_1 : decode b_Mo_settings 1 = .ok (.iconst 0, 1) := by decide +kernel
theorem d_Mo_settings_2 : decode b_Mo_settings 2 = .ok (.putfield 60, 3) := by decide +kernel
theorem d_Mo_settings_5 : decode b_Mo_settings 5 = .ok (.iload_n 1, 1) := by decide +kernel
theorem d_Mo_settings_6 : decode b_Mo_settings 6 = .ok (.iconst 0, 1) := by decide +kernel
theorem d_Mo_settings_7 : decode b_Mo_settings 7 = .ok (.iconst 3, 1) := by decide +kernel
theorem d_Mo_settings_8 : decode b_Mo_settings 8 = .ok (.invokestatic 66, 3) := by decide +kernel
theorem d_Mo_settings_11 : decode b_Mo_settings 11 = .ok (.ifCond .eq 42, 3) := by decide +kernel
theorem d_Mo_settings_14 : decode b_Mo_settings 14 = .ok (.iload_n 2, 1) := by decide +kernel
theorem d_Mo_settings_15 : decode b_Mo_settings 15 = .ok (.iconst 0, 1) := by decide +kernel
theorem d_Mo_settings_16 : decode b_Mo_settings 16 = .ok (.iconst 3, 1) := by decide +kernel
theorem d_Mo_settings_17 : decode b_Mo_settings 17 = .ok (.invokestatic 66, 3) := by decide +kernel
theorem d_Mo_settings_20 : decode b_Mo_settings 20 = .ok (.ifCond .eq 33, 3) := by decide +kernel
theorem d_Mo_settings_23 : decode b_Mo_settings 23 = .ok (.iload_n 3, 1) := by decide +kernel
theorem d_Mo_settings_24 : decode b_Mo_settings 24 = .ok (.iconst 0, 1) := by decide +kernel
theorem d_Mo_settings_25 : decode b_Mo_settings 25 = .ok (.bipush 6, 2) := by decide +kernel
theorem d_Mo_settings_27 : decode b_Mo_settings 27 = .ok (.invokestatic 66, 3) := by decide +kernel
theorem d_Mo_settings_30 : decode b_Mo_settings 30 = .ok (.ifCond .eq 23, 3) := by decide +kernel
theorem d_Mo_settings_33 : decode b_Mo_settings 33 = .ok (.iload 4, 2) := by decide +kernel
theorem d_Mo_settings_35 : decode b_Mo_settings 35 = .ok (.iconst 0, 1) := by decide +kernel
theorem d_Mo_settings_36 : decode b_Mo_settings 36 = .ok (.iconst 3, 1) := by decide +kernel
theorem d_Mo_settings_37 : decode b_Mo_settings 37 = .ok (.invokestatic 66, 3) := by decide +kernel
theorem d_Mo_settings_40 : decode b_Mo_settings 40 = .ok (.ifCond .eq 13, 3) := by decide +kernel
theorem d_Mo_settings_43 : decode b_Mo_settings 43 = .ok (.iload 5, 2) := by decide +kernel
theorem d_Mo_settings_45 : decode b_Mo_settings 45 = .ok (.iconst 0, 1) := by decide +kernel
theorem d_Mo_settings_46 : decode b_Mo_settings 46 = .ok (.iconst 2, 1) := by decide +kernel
theorem d_Mo_settings_47 : decode b_Mo_settings 47 = .ok (.invokestatic 66, 3) := by decide +kernel
theorem d_Mo_settings_50 : decode b_Mo_settings 50 = .ok (.ifCond .ne 5, 3) := by decide +kernel
theorem d_Mo_settings_53 : decode b_Mo_settings 53 = .ok (.iconst 0, 1) := by decide +kernel
theorem d_Mo_settings_54 : decode b_Mo_settings 54 = .ok (.ireturn, 1) := by decide +kernel
theorem d_Mo_settings_55 : decode b_Mo_settings 55 = .ok (.aload_n 0, 1) := by decide +kernel
theorem d_Mo_settings_56 : decode b_Mo_settings 56 = .ok (.iload_n 1, 1) := by decide +kernel
theorem d_Mo_settings_57 : decode b_Mo_settings 57 = .ok (.putfield 44, 3) := by decide +kernel
theorem d_Mo_settings_60 : decode b_Mo_settings 60 = .ok (.aload_n 0, 1) := by decide +kernel
theorem d_Mo_settings_61 : decode b_Mo_settings 61 = .ok (.iload_n 2, 1) := by decide +kernel
theorem d_Mo_settings_62 : decode b_Mo_settings 62 = .ok (.putfield 48, 3) := by decide +kernel
theorem d_Mo_settings_65 : decode b_Mo_settings 65 = .ok (.aload_n 0, 1) := by decide +kernel
theorem d_Mo_settings_66 : decode b_Mo_settings 66 = .ok (.iload_n 3, 1) := by decide +kernel
theorem d_Mo_settings_67 : decode b_Mo_settings 67 = .ok (.putfield 51, 3) := by decide +kernel
theorem d_Mo_settings_70 : decode b_Mo_settings 70 = .ok (.aload_n 0, 1) := by decide +kernel
theorem d_Mo_settings_71 : decode b_Mo_settings 71 = .ok (.iload 4, 2) := by decide +kernel
theorem d_Mo_settings_73 : decode b_Mo_settings 73 = .ok (.putfield 54, 3) := by decide +kernel
theorem d_Mo_settings_76 : decode b_Mo_settings 76 = .ok (.aload_n 0, 1) := by decide +kernel
theorem d_Mo_settings_77 : decode b_Mo_settings 77 = .ok (.iload 5, 2) := by decide +kernel
theorem d_Mo_settings_79 : decode b_Mo_settings 79 = .ok (.putfield 158, 3) := by decide +kernel
theorem d_Mo_settings_82 : decode b_Mo_settings 82 = .ok (.iconst 1, 1) := by decide +kernel
theorem d_Mo_settings_83 : decode b_Mo_settings 83 = .ok (.ireturn, 1) := by decide +kernel
theorem d_Mo_around_0 : decode b_Mo_around 0 = .ok (.iconst 0, 1) := by decide +kernel
theorem d_Mo_around_1 : decode b_Mo_around 1 = .ok (.istore 5, 2) := by decide +kernel
theorem d_Mo_around_3 : decode b_Mo_around 3 = .ok (.iload_n 2, 1) := by decide +kernel
theorem d_Mo_around_4 : decode b_Mo_around 4 = .ok (.iload 4, 2) := by decide +kernel
theorem d_Mo_around_6 : decode b_Mo_around 6 = .ok (.isub, 1) := by decide +kernel
theorem d_Mo_around_7 : decode b_Mo_around 7 = .ok (.istore 6, 2) := by decide +kernel
theorem d_Mo_around_9 : decode b_Mo_around 9 = .ok (.iload 6, 2) := by decide +kernel
theorem d_Mo_around_11 : decode b_Mo_around 11 = .ok (.iload_n 2, 1) := by decide +kernel
theorem d_Mo_around_12 : decode b_Mo_around 12 = .ok (.iload 4, 2) := by decide +kernel
theorem d_Mo_around_14 : decode b_Mo_around 14 = .ok (.iadd, 1) := by decide +kernel
theorem d_Mo_around_15 : decode b_Mo_around 15 = .ok (.if_icmp .gt 52, 3) := by decide +kernel
theorem d_Mo_around_18 : decode b_Mo_around 18 = .ok (.iload_n 3, 1) := by decide +kernel
theorem d_Mo_around_19 : decode b_Mo_around 19 = .ok (.iload 4, 2) := by decide +kernel
theorem d_Mo_around_21 : decode b_Mo_around 21 = .ok (.isub, 1) := by decide +kernel
theorem d_Mo_around_22 : decode b_Mo_around 22 = .ok (.istore 7, 2) := by decide +kernel
theorem d_Mo_around_24 : decode b_Mo_around 24 = .ok (.iload 7, 2) := by decide +kernel
theorem d_Mo_around_26 : decode b_Mo_around 26 = .ok (.iload_n 3, 1) := by decide +kernel
theorem d_Mo_around_27 : decode b_Mo_around 27 = .ok (.iload 4, 2) := by decide +kernel
theorem d_Mo_around_29 : decode b_Mo_around 29 = .ok (.iadd, 1) := by decide +kernel
theorem d_Mo_around_30 : decode b_Mo_around 30 = .ok (.if_icmp .gt 31, 3) := by decide +kernel
theorem d_Mo_around_33 : decode b_Mo_around 33 = .ok (.iload 5, 2) := by decide +kernel
theorem d_Mo_around_35 : decode b_Mo_around 35 = .ok (.aload_n 0, 1) := by decide +kernel
theorem d_Mo_around_36 : decode b_Mo_around 36 = .ok (.iload_n 1, 1) := by decide +kernel
theorem d_Mo_around_37 : decode b_Mo_around 37 = .ok (.iload 6, 2) := by decide +kernel
theorem d_Mo_around_39 : decode b_Mo_around 39 = .ok (.iload 7, 2) := by decide +kernel
theorem d_Mo_around_41 : decode b_Mo_around 41 = .ok (.invokevirtual 155, 3) := by decide +kernel
theorem d_Mo_around_44 : decode b_Mo_around 44 = .ok (.ifCond .eq 7, 3) := by decide +kernel
theorem d_Mo_around_47 : decode b_Mo_around 47 = .ok (.iconst 1, 1) := by decide +kernel
theorem d_Mo_around_48 : decode b_Mo_around 48 = .ok (.goto 4, 3) := by decide +kernel
theorem d_Mo_around_51 : decode b_Mo_around 51 = .ok (.iconst 0, 1) := by decide +kernel
theorem d_Mo_around_52 : decode b_Mo_around 52 = .ok (.iadd, 1) := by decide +kernel
theorem d_Mo_around_53 : decode b_Mo_around 53 = .ok (.istore 5, 2) := by decide +kernel
theorem d_Mo_around_55 : decode b_Mo_around 55 = .ok (.iinc 7 1, 3) := by decide +kernel
theorem d_Mo_around_58 : decode b_Mo_around 58 = .ok (.goto (-34), 3) := by decide +kernel
theorem d_Mo_around_61 : decode b_Mo_around 61 = .ok (.iinc 6 1, 3) := by decide +kernel
theorem d_Mo_around_64 : decode b_Mo_around 64 = .ok (.goto (-55), 3) := by decide +kernel
theorem d_Mo_around_67 : decode b_Mo_around 67 = .ok (.iload 5, 2) := by decide +kernel
theorem d_Mo_around_69 : decode b_Mo_around 69 = .ok (.ireturn, 1) := by decide +kernel
theorem d_Mo_hangs_0 : decode b_Mo_hangs 0 = .ok (.iload_n 1, 1) := by decide +kernel
theorem d_Mo_hangs_1 : decode b_Mo_hangs 1 = .ok (.ifCond .le 33, 3) := by decide +kernel
theorem d_Mo_hangs_4 : decode b_Mo_hangs 4 = .ok (.aload_n 0, 1) := by decide +kernel
theorem d_Mo_hangs_5 : decode b_Mo_hangs 5 = .ok (.iload_n 1, 1) := by decide +kernel
theorem d_Mo_hangs_6 : decode b_Mo_hangs 6 = .ok (.iload_n 2, 1) := by decide +kernel
theorem d_Mo_hangs_7 : decode b_Mo_hangs 7 = .ok (.iload_n 3, 1) := by decide +kernel
theorem d_Mo_hangs_8 : decode b_Mo_hangs 8 = .ok (.invokevirtual 155, 3) := by decide +kernel
theorem d_Mo_hangs_11 : decode b_Mo_hangs 11 = .ok (.ifCond .eq 23, 3) := by decide +kernel
theorem d_Mo_hangs_14 : decode b_Mo_hangs 14 = .ok (.aload_n 0, 1) := by decide +kernel
theorem d_Mo_hangs_15 : decode b_Mo_hangs 15 = .ok (.iload_n 1, 1) := by decide +kernel
theorem d_Mo_hangs_16 : decode b_Mo_hangs 16 = .ok (.iconst 1, 1) := by decide +kernel
theorem d_Mo_hangs_17 : decode b_Mo_hangs 17 = .ok (.isub, 1) := by decide +kernel
theorem d_Mo_hangs_18 : decode b_Mo_hangs 18 = .ok (.iload_n 2, 1) := by decide +kernel
theorem d_Mo_hangs_19 : decode b_Mo_hangs 19 = .ok (.iload_n 3, 1) := by decide +kernel
theorem d_Mo_hangs_20 : decode b_Mo_hangs 20 = .ok (.aload_n 0, 1) := by decide +kernel
theorem d_Mo_hangs_21 : decode b_Mo_hangs 21 = .ok (.getfield 54, 3) := by decide +kernel
theorem d_Mo_hangs_24 : decode b_Mo_hangs 24 = .ok (.invokevirtual 161, 3) := by decide +kernel
theorem d_Mo_hangs_27 : decode b_Mo_hangs 27 = .ok (.ifCond .ne 7, 3) := by decide +kernel
theorem d_Mo_hangs_30 : decode b_Mo_hangs 30 = .ok (.iconst 1, 1) := by decide +kernel
theorem d_Mo_hangs_31 : decode b_Mo_hangs 31 = .ok (.goto 4, 3) := by decide +kernel
theorem d_Mo_hangs_34 : decode b_Mo_hangs 34 = .ok (.iconst 0, 1) := by decide +kernel
theorem d_Mo_hangs_35 : decode b_Mo_hangs 35 = .ok (.ireturn, 1) := by decide +kernel
theorem d_Mo_kindOf_0 : decode b_Mo_kindOf 0 = .ok (.iload_n 1, 1) := by decide +kernel
theorem d_Mo_kindOf_1 : decode b_Mo_kindOf 1 = .ok (.iconst 0, 1) := by decide +kernel
theorem d_Mo_kindOf_2 : decode b_Mo_kindOf 2 = .ok (.aload_n 0, 1) := by decide +kernel
theorem d_Mo_kindOf_3 : decode b_Mo_kindOf 3 = .ok (.getfield 116, 3) := by decide +kernel
theorem d_Mo_kindOf_6 : decode b_Mo_kindOf 6 = .ok (.iconst 1, 1) := by decide +kernel
theorem d_Mo_kindOf_7 : decode b_Mo_kindOf 7 = .ok (.isub, 1) := by decide +kernel
theorem d_Mo_kindOf_8 : decode b_Mo_kindOf 8 = .ok (.invokestatic 66, 3) := by decide +kernel
theorem d_Mo_kindOf_11 : decode b_Mo_kindOf 11 = .ok (.ifCond .eq 23, 3) := by decide +kernel
theorem d_Mo_kindOf_14 : decode b_Mo_kindOf 14 = .ok (.iload_n 2, 1) := by decide +kernel
theorem d_Mo_kindOf_15 : decode b_Mo_kindOf 15 = .ok (.iconst 0, 1) := by decide +kernel
theorem d_Mo_kindOf_16 : decode b_Mo_kindOf 16 = .ok (.bipush 11, 2) := by decide +kernel
theorem d_Mo_kindOf_18 : decode b_Mo_kindOf 18 = .ok (.invokestatic 66, 3) := by decide +kernel
theorem d_Mo_kindOf_21 : decode b_Mo_kindOf 21 = .ok (.ifCond .eq 13, 3) := by decide +kernel
theorem d_Mo_kindOf_24 : decode b_Mo_kindOf 24 = .ok (.iload_n 3, 1) := by decide +kernel
theorem d_Mo_kindOf_25 : decode b_Mo_kindOf 25 = .ok (.iconst 0, 1) := by decide +kernel
theorem d_Mo_kindOf_26 : decode b_Mo_kindOf 26 = .ok (.bipush 11, 2) := by decide +kernel
theorem d_Mo_kindOf_28 : decode b_Mo_kindOf 28 = .ok (.invokestatic 66, 3) := by decide +kernel
theorem d_Mo_kindOf_31 : decode b_Mo_kindOf 31 = .ok (.ifCond .ne 5, 3) := by decide +kernel
theorem d_Mo_kindOf_34 : decode b_Mo_kindOf 34 = .ok (.iconst 0, 1) := by decide +kernel
theorem d_Mo_kindOf_35 : decode b_Mo_kindOf 35 = .ok (.ireturn, 1) := by decide +kernel
theorem d_Mo_kindOf_36 : decode b_Mo_kindOf 36 = .ok (.aload_n 0, 1) := by decide +kernel
theorem d_Mo_kindOf_37 : decode b_Mo_kindOf 37 = .ok (.iload_n 1, 1) := by decide +kernel
theorem d_Mo_kindOf_38 : decode b_Mo_kindOf 38 = .ok (.iload_n 2, 1) := by decide +kernel
theorem d_Mo_kindOf_39 : decode b_Mo_kindOf 39 = .ok (.iload_n 3, 1) := by decide +kernel
theorem d_Mo_kindOf_40 : decode b_Mo_kindOf 40 = .ok (.invokevirtual 155, 3) := by decide +kernel
theorem d_Mo_kindOf_43 : decode b_Mo_kindOf 43 = .ok (.ifCond .ne 75, 3) := by decide +kernel
theorem d_Mo_kindOf_46 : decode b_Mo_kindOf 46 = .ok (.iload_n 1, 1) := by decide +kernel
theorem d_Mo_kindOf_47 : decode b_Mo_kindOf 47 = .ok (.iconst 1, 1) := by decide +kernel
theorem d_Mo_kindOf_48 : decode b_Mo_kindOf 48 = .ok (.iadd, 1) := by decide +kernel
theorem d_Mo_kindOf_49 : decode b_Mo_kindOf 49 = .ok (.istore 4, 2) := by decide +kernel
theorem d_Mo_kindOf_51 : decode b_Mo_kindOf 51 = .ok (.iload 4, 2) := by decide +kernel
theorem d_Mo_kindOf_53 : decode b_Mo_kindOf 53 = .ok (.aload_n 0, 1) := by decide +kernel
theorem d_Mo_kindOf_54 : decode b_Mo_kindOf 54 = .ok (.getfield 116, 3) := by decide +kernel
theorem d_Mo_kindOf_57 : decode b_Mo_kindOf 57 = .ok (.if_icmp .ge 20, 3) := by decide +kernel
theorem d_Mo_kindOf_60 : decode b_Mo_kindOf 60 = .ok (.aload_n 0, 1) := by decide +kernel
theorem d_Mo_kindOf_61 : decode b_Mo_kindOf 61 = .ok (.iload 4, 2) := by decide +kernel
theorem d_Mo_kindOf_63 : decode b_Mo_kindOf 63 = .ok (.iload_n 2, 1) := by decide +kernel
theorem d_Mo_kindOf_64 : decode b_Mo_kindOf 64 = .ok (.iload_n 3, 1) := by decide +kernel
theorem d_Mo_kindOf_65 : decode b_Mo_kindOf 65 = .ok (.invokevirtual 155, 3) := by decide +kernel
theorem d_Mo_kindOf_68 : decode b_Mo_kindOf 68 = .ok (.ifCond .ne 9, 3) := by decide +kernel
theorem d_Mo_kindOf_71 : decode b_Mo_kindOf 71 = .ok (.iinc 4 1, 3) := by decide +kernel
theorem d_Mo_kindOf_74 : decode b_Mo_kindOf 74 = .ok (.goto (-23), 3) := by decide +kernel
theorem d_Mo_kindOf_77 : decode b_Mo_kindOf 77 = .ok (.aload_n 0, 1) := by decide +kernel
theorem d_Mo_kindOf_78 : decode b_Mo_kindOf 78 = .ok (.iload 4, 2) := by decide +kernel
theorem d_Mo_kindOf_80 : decode b_Mo_kindOf 80 = .ok (.iload_n 2, 1) := by decide +kernel
theorem d_Mo_kindOf_81 : decode b_Mo_kindOf 81 = .ok (.iload_n 3, 1) := by decide +kernel
theorem d_Mo_kindOf_82 : decode b_Mo_kindOf 82 = .ok (.invokevirtual 164, 3) := by decide +kernel
theorem d_Mo_kindOf_85 : decode b_Mo_kindOf 85 = .ok (.ifCond .ne 5, 3) := by decide +kernel
theorem d_Mo_kindOf_88 : decode b_Mo_kindOf 88 = .ok (.iconst 0, 1) := by decide +kernel
theorem d_Mo_kindOf_89 : decode b_Mo_kindOf 89 = .ok (.ireturn, 1) := by decide +kernel
theorem d_Mo_kindOf_90 : decode b_Mo_kindOf 90 = .ok (.aload_n 0, 1) := by decide +kernel
theorem d_Mo_kindOf_91 : decode b_Mo_kindOf 91 = .ok (.getfield 158, 3) := by decide +kernel
theorem d_Mo_kindOf_94 : decode b_Mo_kindOf 94 = .ok (.ifCond .le 22, 3) := by decide +kernel
theorem d_Mo_kindOf_97 : decode b_Mo_kindOf 97 = .ok (.aload_n 0, 1) := by decide +kernel
theorem d_Mo_kindOf_98 : decode b_Mo_kindOf 98 = .ok (.iload_n 1, 1) := by decide +kernel
theorem d_Mo_kindOf_99 : decode b_Mo_kindOf 99 = .ok (.iload_n 2, 1) := by decide +kernel
theorem d_Mo_kindOf_100 : decode b_Mo_kindOf 100 = .ok (.iload_n 3, 1) := by decide +kernel
theorem d_Mo_kindOf_101 : decode b_Mo_kindOf 101 = .ok (.aload_n 0, 1) := by decide +kernel
theorem d_Mo_kindOf_102 : decode b_Mo_kindOf 102 = .ok (.getfield 158, 3) := by decide +kernel
theorem d_Mo_kindOf_105 : decode b_Mo_kindOf 105 = .ok (.invokevirtual 161, 3) := by decide +kernel
theorem d_Mo_kindOf_108 : decode b_Mo_kindOf 108 = .ok (.ifCond .le 8, 3) := by decide +kernel
theorem d_Mo_kindOf_111 : decode b_Mo_kindOf 111 = .ok (.bipush 6, 2) := by decide +kernel
theorem d_Mo_kindOf_113 : decode b_Mo_kindOf 113 = .ok (.goto 4, 3) := by decide +kernel
theorem d_Mo_kindOf_116 : decode b_Mo_kindOf 116 = .ok (.iconst 5, 1) := by decide +kernel
theorem d_Mo_kindOf_117 : decode b_Mo_kindOf 117 = .ok (.ireturn, 1) := by decide +kernel
theorem d_Mo_kindOf_118 : decode b_Mo_kindOf 118 = .ok (.iconst 2, 1) := by decide +kernel
theorem d_Mo_kindOf_119 : decode b_Mo_kindOf 119 = .ok (.aload_n 0, 1) := by decide +kernel
theorem d_Mo_kindOf_120 : decode b_Mo_kindOf 120 = .ok (.getfield 44, 3) := by decide +kernel
theorem d_Mo_kindOf_123 : decode b_Mo_kindOf 123 = .ok (.imul, 1) := by decide +kernel
theorem d_Mo_kindOf_124 : decode b_Mo_kindOf 124 = .ok (.iconst 1, 1) := by decide +kernel
theorem d_Mo_kindOf_125 : decode b_Mo_kindOf 125 = .ok (.iadd, 1) := by decide +kernel
theorem d_Mo_kindOf_126 : decode b_Mo_kindOf 126 = .ok (.istore 4, 2) := by decide +kernel
theorem d_Mo_kindOf_128 : decode b_Mo_kindOf 128 = .ok (.aload_n 0, 1) := by decide +kernel
theorem d_Mo_kindOf_129 : decode b_Mo_kindOf 129 = .ok (.getfield 44, 3) := by decide +kernel
theorem d_Mo_kindOf_132 : decode b_Mo_kindOf 132 = .ok (.ifCond .le 24, 3) := by decide +kernel
theorem d_Mo_kindOf_135 : decode b_Mo_kindOf 135 = .ok (.aload_n 0, 1) := by decide +kernel
theorem d_Mo_kindOf_136 : decode b_Mo_kindOf 136 = .ok (.iload_n 1, 1) := by decide +kernel
theorem d_Mo_kindOf_137 : decode b_Mo_kindOf 137 = .ok (.iload_n 2, 1) := by decide +kernel
theorem d_Mo_kindOf_138 : decode b_Mo_kindOf 138 = .ok (.iload_n 3, 1) := by decide +kernel
theorem d_Mo_kindOf_139 : decode b_Mo_kindOf 139 = .ok (.aload_n 0, 1) := by decide +kernel
theorem d_Mo_kindOf_140 : decode b_Mo_kindOf 140 = .ok (.getfield 44, 3) := by decide +kernel
theorem d_Mo_kindOf_143 : decode b_Mo_kindOf 143 = .ok (.invokevirtual 161, 3) := by decide +kernel
theorem d_Mo_kindOf_146 : decode b_Mo_kindOf 146 = .ok (.iload 4, 2) := by decide +kernel
theorem d_Mo_kindOf_148 : decode b_Mo_kindOf 148 = .ok (.iload 4, 2) := by decide +kernel
theorem d_Mo_kindOf_150 : decode b_Mo_kindOf 150 = .ok (.imul, 1) := by decide +kernel
theorem d_Mo_kindOf_151 : decode b_Mo_kindOf 151 = .ok (.if_icmp .ge 5, 3) := by decide +kernel
theorem d_Mo_kindOf_154 : decode b_Mo_kindOf 154 = .ok (.iconst 1, 1) := by decide +kernel
theorem d_Mo_kindOf_155 : decode b_Mo_kindOf 155 = .ok (.ireturn, 1) := by decide +kernel
theorem d_Mo_kindOf_156 : decode b_Mo_kindOf 156 = .ok (.iconst 1, 1) := by decide +kernel
theorem d_Mo_kindOf_157 : decode b_Mo_kindOf 157 = .ok (.istore 5, 2) := by decide +kernel
theorem d_Mo_kindOf_159 : decode b_Mo_kindOf 159 = .ok (.iload 5, 2) := by decide +kernel
theorem d_Mo_kindOf_161 : decode b_Mo_kindOf 161 = .ok (.aload_n 0, 1) := by decide +kernel
theorem d_Mo_kindOf_162 : decode b_Mo_kindOf 162 = .ok (.getfield 48, 3) := by decide +kernel
theorem d_Mo_kindOf_165 : decode b_Mo_kindOf 165 = .ok (.if_icmp .gt 37, 3) := by decide +kernel
theorem d_Mo_kindOf_168 : decode b_Mo_kindOf 168 = .ok (.aload_n 0, 1) := by decide +kernel
theorem d_Mo_kindOf_169 : decode b_Mo_kindOf 169 = .ok (.iload_n 1, 1) := by decide +kernel
theorem d_Mo_kindOf_170 : decode b_Mo_kindOf 170 = .ok (.iload 5, 2) := by decide +kernel
theorem d_Mo_kindOf_172 : decode b_Mo_kindOf 172 = .ok (.isub, 1) := by decide +kernel
theorem d_Mo_kindOf_173 : decode b_Mo_kindOf 173 = .ok (.iload_n 2, 1) := by decide +kernel
theorem d_Mo_kindOf_174 : decode b_Mo_kindOf 174 = .ok (.iload_n 3, 1) := by decide +kernel
theorem d_Mo_kindOf_175 : decode b_Mo_kindOf 175 = .ok (.invokevirtual 155, 3) := by decide +kernel
theorem d_Mo_kindOf_178 : decode b_Mo_kindOf 178 = .ok (.ifCond .eq 16, 3) := by decide +kernel
theorem d_Mo_kindOf_181 : decode b_Mo_kindOf 181 = .ok (.aload_n 0, 1) := by decide +kernel
theorem d_Mo_kindOf_182 : decode b_Mo_kindOf 182 = .ok (.iload_n 1, 1) := by decide +kernel
theorem d_Mo_kindOf_183 : decode b_Mo_kindOf 183 = .ok (.iload 5, 2) := by decide +kernel
theorem d_Mo_kindOf_185 : decode b_Mo_kindOf 185 = .ok (.iadd, 1) := by decide +kernel
theorem d_Mo_kindOf_186 : decode b_Mo_kindOf 186 = .ok (.iload_n 2, 1) := by decide +kernel
theorem d_Mo_kindOf_187 : decode b_Mo_kindOf 187 = .ok (.iload_n 3, 1) := by decide +kernel
theorem d_Mo_kindOf_188 : decode b_Mo_kindOf 188 = .ok (.invokevirtual 155, 3) := by decide +kernel
theorem d_Mo_kindOf_191 : decode b_Mo_kindOf 191 = .ok (.ifCond .ne 5, 3) := by decide +kernel
theorem d_Mo_kindOf_194 : decode b_Mo_kindOf 194 = .ok (.iconst 2, 1) := by decide +kernel
theorem d_Mo_kindOf_195 : decode b_Mo_kindOf 195 = .ok (.ireturn, 1) := by decide +kernel
theorem d_Mo_kindOf_196 : decode b_Mo_kindOf 196 = .ok (.iinc 5 1, 3) := by decide +kernel
theorem d_Mo_kindOf_199 : decode b_Mo_kindOf 199 = .ok (.goto (-40), 3) := by decide +kernel
theorem d_Mo_kindOf_202 : decode b_Mo_kindOf 202 = .ok (.aload_n 0, 1) := by decide +kernel
theorem d_Mo_kindOf_203 : decode b_Mo_kindOf 203 = .ok (.getfield 51, 3) := by decide +kernel
theorem d_Mo_kindOf_206 : decode b_Mo_kindOf 206 = .ok (.ifCond .le 26, 3) := by decide +kernel
theorem d_Mo_kindOf_209 : decode b_Mo_kindOf 209 = .ok (.iload_n 1, 1) := by decide +kernel
theorem d_Mo_kindOf_210 : decode b_Mo_kindOf 210 = .ok (.iconst 2, 1) := by decide +kernel
theorem d_Mo_kindOf_211 : decode b_Mo_kindOf 211 = .ok (.irem, 1) := by decide +kernel
theorem d_Mo_kindOf_212 : decode b_Mo_kindOf 212 = .ok (.ifCond .ne 7, 3) := by decide +kernel
theorem d_Mo_kindOf_215 : decode b_Mo_kindOf 215 = .ok (.iload_n 2, 1) := by decide +kernel
theorem d_Mo_kindOf_216 : decode b_Mo_kindOf 216 = .ok (.goto 4, 3) := by decide +kernel
theorem d_Mo_kindOf_219 : decode b_Mo_kindOf 219 = .ok (.iload_n 3, 1) := by decide +kernel
theorem d_Mo_kindOf_220 : decode b_Mo_kindOf 220 = .ok (.aload_n 0, 1) := by decide +kernel
theorem d_Mo_kindOf_221 : decode b_Mo_kindOf 221 = .ok (.getfield 51, 3) := by decide +kernel
theorem d_Mo_kindOf_224 : decode b_Mo_kindOf 224 = .ok (.irem, 1) := by decide +kernel
theorem d_Mo_kindOf_225 : decode b_Mo_kindOf 225 = .ok (.ifCond .ne 7, 3) := by decide +kernel
theorem d_Mo_kindOf_228 : decode b_Mo_kindOf 228 = .ok (.iconst 3, 1) := by decide +kernel
theorem d_Mo_kindOf_229 : decode b_Mo_kindOf 229 = .ok (.goto 4, 3) := by decide +kernel
theorem d_Mo_kindOf_232 : decode b_Mo_kindOf 232 = .ok (.iconst 4, 1) := by decide +kernel
theorem d_Mo_kindOf_233 : decode b_Mo_kindOf 233 = .ok (.ireturn, 1) := by decide +kernel
theorem d_Mo_kind_0 : decode b_Mo_kind 0 = .ok (.aload_n 0, 1) := by decide +kernel
theorem d_Mo_kind_1 : decode b_Mo_kind 1 = .ok (.iconst 0, 1) := by decide +kernel
theorem d_Mo_kind_2 : decode b_Mo_kind 2 = .ok (.putfield 60, 3) := by decide +kernel
theorem d_Mo_kind_5 : decode b_Mo_kind 5 = .ok (.aload_n 0, 1) := by decide +kernel
theorem d_Mo_kind_6 : decode b_Mo_kind 6 = .ok (.iload_n 1, 1) := by decide +kernel
theorem d_Mo_kind_7 : decode b_Mo_kind 7 = .ok (.iload_n 2, 1) := by decide +kernel
theorem d_Mo_kind_8 : decode b_Mo_kind 8 = .ok (.iload_n 3, 1) := by decide +kernel
theorem d_Mo_kind_9 : decode b_Mo_kind 9 = .ok (.invokevirtual 167, 3) := by decide +kernel
theorem d_Mo_kind_12 : decode b_Mo_kind 12 = .ok (.ireturn, 1) := by decide +kernel
theorem d_Mo_overhang_0 : decode b_Mo_overhang 0 = .ok (.aload_n 0, 1) := by decide +kernel
theorem d_Mo_overhang_1 : decode b_Mo_overhang 1 = .ok (.iconst 0, 1) := by decide +kernel
theorem d_Mo_overhang_2 : decode b_Mo_overhang 2 = .ok (.putfield 60, 3) := by decide +kernel
theorem d_Mo_overhang_5 : decode b_Mo_overhang 5 = .ok (.iconst 0, 1) := by decide +kernel
theorem d_Mo_overhang_6 : decode b_Mo_overhang 6 = .ok (.istore_n 2, 1) := by decide +kernel
theorem d_Mo_overhang_7 : decode b_Mo_overhang 7 = .ok (.iconst 0, 1) := by decide +kernel
theorem d_Mo_overhang_8 : decode b_Mo_overhang 8 = .ok (.istore_n 3, 1) := by decide +kernel
theorem d_Mo_overhang_9 : decode b_Mo_overhang 9 = .ok (.iload_n 3, 1) := by decide +kernel
theorem d_Mo_overhang_10 : decode b_Mo_overhang 10 = .ok (.bipush 12, 2) := by decide +kernel
theorem d_Mo_overhang_12 : decode b_Mo_overhang 12 = .ok (.if_icmp .ge 58, 3) := by decide +kernel
theorem d_Mo_overhang_15 : decode b_Mo_overhang 15 = .ok (.iconst 0, 1) := by decide +kernel
theorem d_Mo_overhang_16 : decode b_Mo_overhang 16 = .ok (.istore 4, 2) := by decide +kernel
theorem d_Mo_overhang_18 : decode b_Mo_overhang 18 = .ok (.iload 4, 2) := by decide +kernel
theorem d_Mo_overhang_20 : decode b_Mo_overhang 20 = .ok (.bipush 12, 2) := by decide +kernel
theorem d_Mo_overhang_22 : decode b_Mo_overhang 22 = .ok (.if_icmp .ge 42, 3) := by decide +kernel
theorem d_Mo_overhang_25 : decode b_Mo_overhang 25 = .ok (.iload_n 2, 1) := by decide +kernel
theorem d_Mo_overhang_26 : decode b_Mo_overhang 26 = .ok (.iload_n 1, 1) := by decide +kernel
theorem d_Mo_overhang_27 : decode b_Mo_overhang 27 = .ok (.iconst 0, 1) := by decide +kernel
theorem d_Mo_overhang_28 : decode b_Mo_overhang 28 = .ok (.aload_n 0, 1) := by decide +kernel
theorem d_Mo_overhang_29 : decode b_Mo_overhang 29 = .ok (.getfield 116, 3) := by decide +kernel
theorem d_Mo_overhang_32 : decode b_Mo_overhang 32 = .ok (.iconst 1, 1) := by decide +kernel
theorem d_Mo_overhang_33 : decode b_Mo_overhang 33 = .ok (.isub, 1) := by decide +kernel
theorem d_Mo_overhang_34 : decode b_Mo_overhang 34 = .ok (.invokestatic 66, 3) := by decide +kernel
theorem d_Mo_overhang_37 : decode b_Mo_overhang 37 = .ok (.ifCond .eq 18, 3) := by decide +kernel
theorem d_Mo_overhang_40 : decode b_Mo_overhang 40 = .ok (.aload_n 0, 1) := by decide +kernel
theorem d_Mo_overhang_41 : decode b_Mo_overhang 41 = .ok (.iload_n 1, 1) := by decide +kernel
theorem d_Mo_overhang_42 : decode b_Mo_overhang 42 = .ok (.iload_n 3, 1) := by decide +kernel
theorem d_Mo_overhang_43 : decode b_Mo_overhang 43 = .ok (.iload 4, 2) := by decide +kernel
theorem d_Mo_overhang_45 : decode b_Mo_overhang 45 = .ok (.invokevirtual 164, 3) := by decide +kernel
theorem d_Mo_overhang_48 : decode b_Mo_overhang 48 = .ok (.ifCond .eq 7, 3) := by decide +kernel
theorem d_Mo_overhang_51 : decode b_Mo_overhang 51 = .ok (.iconst 1, 1) := by decide +kernel
theorem d_Mo_overhang_52 : decode b_Mo_overhang 52 = .ok (.goto 4, 3) := by decide +kernel
theorem d_Mo_overhang_55 : decode b_Mo_overhang 55 = .ok (.iconst 0, 1) := by decide +kernel
theorem d_Mo_overhang_56 : decode b_Mo_overhang 56 = .ok (.iadd, 1) := by decide +kernel
theorem d_Mo_overhang_57 : decode b_Mo_overhang 57 = .ok (.istore_n 2, 1) := by decide +kernel
theorem d_Mo_overhang_58 : decode b_Mo_overhang 58 = .ok (.iinc 4 1, 3) := by decide +kernel
theorem d_Mo_overhang_61 : decode b_Mo_overhang 61 = .ok (.goto (-43), 3) := by decide +kernel
theorem d_Mo_overhang_64 : decode b_Mo_overhang 64 = .ok (.iinc 3 1, 3) := by decide +kernel
theorem d_Mo_overhang_67 : decode b_Mo_overhang 67 = .ok (.goto (-58), 3) := by decide +kernel
theorem d_Mo_overhang_70 : decode b_Mo_overhang 70 = .ok (.iload_n 2, 1) := by decide +kernel
theorem d_Mo_overhang_71 : decode b_Mo_overhang 71 = .ok (.ireturn, 1) := by decide +kernel
theorem d_Mo_volume_0 : decode b_Mo_volume 0 = .ok (.aload_n 0, 1) := by decide +kernel
theorem d_Mo_volume_1 : decode b_Mo_volume 1 = .ok (.iconst 0, 1) := by decide +kernel
theorem d_Mo_volume_2 : decode b_Mo_volume 2 = .ok (.putfield 60, 3) := by decide +kernel
theorem d_Mo_volume_5 : decode b_Mo_volume 5 = .ok (.iload_n 1, 1) := by decide +kernel
theorem d_Mo_volume_6 : decode b_Mo_volume 6 = .ok (.iconst 0, 1) := by decide +kernel
theorem d_Mo_volume_7 : decode b_Mo_volume 7 = .ok (.bipush 6, 2) := by decide +kernel
theorem d_Mo_volume_9 : decode b_Mo_volume 9 = .ok (.invokestatic 66, 3) := by decide +kernel
theorem d_Mo_volume_12 : decode b_Mo_volume 12 = .ok (.ifCond .ne 5, 3) := by decide +kernel
theorem d_Mo_volume_15 : decode b_Mo_volume 15 = .ok (.iconst (-1), 1) := by decide +kernel
theorem d_Mo_volume_16 : decode b_Mo_volume 16 = .ok (.ireturn, 1) := by decide +kernel
theorem d_Mo_volume_17 : decode b_Mo_volume 17 = .ok (.iconst 0, 1) := by decide +kernel
theorem d_Mo_volume_18 : decode b_Mo_volume 18 = .ok (.istore_n 2, 1) := by decide +kernel
theorem d_Mo_volume_19 : decode b_Mo_volume 19 = .ok (.iconst 0, 1) := by decide +kernel
theorem d_Mo_volume_20 : decode b_Mo_volume 20 = .ok (.istore_n 3, 1) := by decide +kernel
theorem d_Mo_volume_21 : decode b_Mo_volume 21 = .ok (.iload_n 3, 1) := by decide +kernel
theorem d_Mo_volume_22 : decode b_Mo_volume 22 = .ok (.aload_n 0, 1) := by decide +kernel
theorem d_Mo_volume_23 : decode b_Mo_volume 23 = .ok (.getfield 116, 3) := by decide +kernel
theorem d_Mo_volume_26 : decode b_Mo_volume 26 = .ok (.if_icmp .ge 62, 3) := by decide +kernel
theorem d_Mo_volume_29 : decode b_Mo_volume 29 = .ok (.iconst 0, 1) := by decide +kernel
theorem d_Mo_volume_30 : decode b_Mo_volume 30 = .ok (.istore 4, 2) := by decide +kernel
theorem d_Mo_volume_32 : decode b_Mo_volume 32 = .ok (.iload 4, 2) := by decide +kernel
theorem d_Mo_volume_34 : decode b_Mo_volume 34 = .ok (.bipush 12, 2) := by decide +kernel
theorem d_Mo_volume_36 : decode b_Mo_volume 36 = .ok (.if_icmp .ge 46, 3) := by decide +kernel
theorem d_Mo_volume_39 : decode b_Mo_volume 39 = .ok (.iconst 0, 1) := by decide +kernel
theorem d_Mo_volume_40 : decode b_Mo_volume 40 = .ok (.istore 5, 2) := by decide +kernel
theorem d_Mo_volume_42 : decode b_Mo_volume 42 = .ok (.iload 5, 2) := by decide +kernel
theorem d_Mo_volume_44 : decode b_Mo_volume 44 = .ok (.bipush 12, 2) := by decide +kernel
theorem d_Mo_volume_46 : decode b_Mo_volume 46 = .ok (.if_icmp .ge 30, 3) := by decide +kernel
theorem d_Mo_volume_49 : decode b_Mo_volume 49 = .ok (.iload_n 2, 1) := by decide +kernel
theorem d_Mo_volume_50 : decode b_Mo_volume 50 = .ok (.aload_n 0, 1) := by decide +kernel
theorem d_Mo_volume_51 : decode b_Mo_volume 51 = .ok (.iload_n 3, 1) := by decide +kernel
theorem d_Mo_volume_52 : decode b_Mo_volume 52 = .ok (.iload 4, 2) := by decide +kernel
theorem d_Mo_volume_54 : decode b_Mo_volume 54 = .ok (.iload 5, 2) := by decide +kernel
theorem d_Mo_volume_56 : decode b_Mo_volume 56 = .ok (.invokevirtual 167, 3) := by decide +kernel
theorem d_Mo_volume_59 : decode b_Mo_volume 59 = .ok (.iload_n 1, 1) := by decide +kernel
theorem d_Mo_volume_60 : decode b_Mo_volume 60 = .ok (.if_icmp .ne 7, 3) := by decide +kernel
theorem d_Mo_volume_63 : decode b_Mo_volume 63 = .ok (.iconst 1, 1) := by decide +kernel
theorem d_Mo_volume_64 : decode b_Mo_volume 64 = .ok (.goto 4, 3) := by decide +kernel
theorem d_Mo_volume_67 : decode b_Mo_volume 67 = .ok (.iconst 0, 1) := by decide +kernel
theorem d_Mo_volume_68 : decode b_Mo_volume 68 = .ok (.iadd, 1) := by decide +kernel
theorem d_Mo_volume_69 : decode b_Mo_volume 69 = .ok (.istore_n 2, 1) := by decide +kernel
theorem d_Mo_volume_70 : decode b_Mo_volume 70 = .ok (.iinc 5 1, 3) := by decide +kernel
theorem d_Mo_volume_73 : decode b_Mo_volume 73 = .ok (.goto (-31), 3) := by decide +kernel
theorem d_Mo_volume_76 : decode b_Mo_volume 76 = .ok (.iinc 4 1, 3) := by decide +kernel
theorem d_Mo_volume_79 : decode b_Mo_volume 79 = .ok (.goto (-47), 3) := by decide +kernel
theorem d_Mo_volume_82 : decode b_Mo_volume 82 = .ok (.iinc 3 1, 3) := by decide +kernel
theorem d_Mo_volume_85 : decode b_Mo_volume 85 = .ok (.goto (-64), 3) := by decide +kernel
theorem d_Mo_volume_88 : decode b_Mo_volume 88 = .ok (.iload_n 2, 1) := by decide +kernel
theorem d_Mo_volume_89 : decode b_Mo_volume 89 = .ok (.ireturn, 1) := by decide +kernel
