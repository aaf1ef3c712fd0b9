theorem d_LS_corner_0 : decode b_LS_corner 0 = .ok (.aload_n 0, 1) := by decide +kernel
theorem d_LS_corner_1 : decode b_LS_corner 1 = .ok (.getfield 12, 3) := by decide +kernel
theorem d_LS_corner_4 : decode b_LS_corner 4 = .ok (.iload_n 1, 1) := by decide +kernel
theorem d_LS_corner_5 : decode b_LS_corner 5 = .ok (.iload_n 2, 1) := by decide +kernel
theorem d_LS_corner_6 : decode b_LS_corner 6 = .ok (.iload_n 3, 1) := by decide +kernel
theorem d_LS_corner_7 : decode b_LS_corner 7 = .ok (.invokevirtual 51, 3) := by decide +kernel
theorem d_LS_corner_10 : decode b_LS_corner 10 = .ok (.ireturn, 1) := by decide +kernel
theorem d_LS_tri_0 : decode b_LS_tri 0 = .ok (.aload_n 0, 1) := by decide +kernel
theorem d_LS_tri_1 : decode b_LS_tri 1 = .ok (.getfield 12, 3) := by decide +kernel
theorem d_LS_tri_4 : decode b_LS_tri 4 = .ok (.iload_n 1, 1) := by decide +kernel
theorem d_LS_tri_5 : decode b_LS_tri 5 = .ok (.iload_n 2, 1) := by decide +kernel
theorem d_LS_tri_6 : decode b_LS_tri 6 = .ok (.iload_n 3, 1) := by decide +kernel
theorem d_LS_tri_7 : decode b_LS_tri 7 = .ok (.invokevirtual 55, 3) := by decide +kernel
theorem d_LS_tri_10 : decode b_LS_tri 10 = .ok (.ireturn, 1) := by decide +kernel
theorem d_LS_mend_0 : decode b_LS_mend 0 = .ok (.aload_n 0, 1) := by decide +kernel
theorem d_LS_mend_1 : decode b_LS_mend 1 = .ok (.getfield 19, 3) := by decide +kernel
theorem d_LS_mend_4 : decode b_LS_mend 4 = .ok (.aload_n 0, 1) := by decide +kernel
theorem d_LS_mend_5 : decode b_LS_mend 5 = .ok (.getfield 12, 3) := by decide +kernel
theorem d_LS_mend_8 : decode b_LS_mend 8 = .ok (.invokevirtual 58, 3) := by decide +kernel
theorem d_LS_mend_11 : decode b_LS_mend 11 = .ok (.ireturn, 1) := by decide +kernel
theorem d_LS_mended_0 : decode b_LS_mended 0 = .ok (.iload_n 1, 1) := by decide +kernel
theorem d_LS_mended_1 : decode b_LS_mended 1 = .ok (.tableswitch 63 0 3 #[31, 39, 47, 55], 31) := by decide +kernel
theorem d_LS_mended_32 : decode b_LS_mended 32 = .ok (.aload_n 0, 1) := by decide +kernel
theorem d_LS_mended_33 : decode b_LS_mended 33 = .ok (.getfield 19, 3) := by decide +kernel
theorem d_LS_mended_36 : decode b_LS_mended 36 = .ok (.getfield 62, 3) := by decide +kernel
theorem d_LS_mended_39 : decode b_LS_mended 39 = .ok (.ireturn, 1) := by decide +kernel
theorem d_LS_mended_40 : decode b_LS_mended 40 = .ok (.aload_n 0, 1) := by decide +kernel
theorem d_LS_mended_41 : decode b_LS_mended 41 = .ok (.getfield 19, 3) := by decide +kernel
theorem d_LS_mended_44 : decode b_LS_mended 44 = .ok (.getfield 66, 3) := by decide +kernel
theorem d_LS_mended_47 : decode b_LS_mended 47 = .ok (.ireturn, 1) := by decide +kernel
theorem d_LS_mended_48 : decode b_LS_mended 48 = .ok (.aload_n 0, 1) := by decide +kernel
theorem d_LS_mended_49 : decode b_LS_mended 49 = .ok (.getfield 19, 3) := by decide +kernel
theorem d_LS_mended_52 : decode b_LS_mended 52 = .ok (.getfield 69, 3) := by decide +kernel
theorem d_LS_mended_55 : decode b_LS_mended 55 = .ok (.ireturn, 1) := by decide +kernel
theorem d_LS_mended_56 : decode b_LS_mended 56 = .ok (.aload_n 0, 1) := by decide +kernel
theorem d_LS_mended_57 : decode b_LS_mended 57 = .ok (.getfield 12, 3) := by decide +kernel
theorem d_LS_mended_60 : decode b_LS_mended 60 = .ok (.getfield 72, 3) := by decide +kernel
theorem d_LS_mended_63 : decode b_LS_mended 63 = .ok (.ireturn, 1) := by decide +kernel
theorem d_LS_mended_64 : decode b_LS_mended 64 = .ok (.iconst (-1), 1) := by decide +kernel
theorem d_LS_mended_65 : decode b_LS_mended 65 = .ok (.ireturn, 1) := by decide +kernel
theorem d_LS_triangle_0 : decode b_LS_triangle 0 = .ok (.iload_n 1, 1) := by decide +kernel
theorem d_LS_triangle_1 : decode b_LS_triangle 1 = .ok (.ifCond .lt 23, 3) := by decide +kernel
theorem d_LS_triangle_4 : decode b_LS_triangle 4 = .ok (.iload_n 1, 1) := by decide +kernel
theorem d_LS_triangle_5 : decode b_LS_triangle 5 = .ok (.aload_n 0, 1) := by decide +kernel
theorem d_LS_triangle_6 : decode b_LS_triangle 6 = .ok (.getfield 12, 3) := by decide +kernel
theorem d_LS_triangle_9 : decode b_LS_triangle 9 = .ok (.getfield 72, 3) := by decide +kernel
theorem d_LS_triangle_12 : decode b_LS_triangle 12 = .ok (.if_icmp .ge 12, 3) := by decide +kernel
theorem d_LS_triangle_15 : decode b_LS_triangle 15 = .ok (.iload_n 2, 1) := by decide +kernel
theorem d_LS_triangle_16 : decode b_LS_triangle 16 = .ok (.ifCond .lt 8, 3) := by decide +kernel
theorem d_LS_triangle_19 : decode b_LS_triangle 19 = .ok (.iload_n 2, 1) := by decide +kernel
theorem d_LS_triangle_20 : decode b_LS_triangle 20 = .ok (.iconst 2, 1) := by decide +kernel
theorem d_LS_triangle_21 : decode b_LS_triangle 21 = .ok (.if_icmp .le 5, 3) := by decide +kernel
theorem d_LS_triangle_24 : decode b_LS_triangle 24 = .ok (.iconst (-1), 1) := by decide +kernel
theorem d_LS_triangle_25 : decode b_LS_triangle 25 = .ok (.ireturn, 1) := by decide +kernel
theorem d_LS_triangle_26 : decode b_LS_triangle 26 = .ok (.aload_n 0, 1) := by decide +kernel
theorem d_LS_triangle_27 : decode b_LS_triangle 27 = .ok (.getfield 12, 3) := by decide +kernel
theorem d_LS_triangle_30 : decode b_LS_triangle 30 = .ok (.getfield 75, 3) := by decide +kernel
theorem d_LS_triangle_33 : decode b_LS_triangle 33 = .ok (.iconst 3, 1) := by decide +kernel
theorem d_LS_triangle_34 : decode b_LS_triangle 34 = .ok (.iload_n 1, 1) := by decide +kernel
theorem d_LS_triangle_35 : decode b_LS_triangle 35 = .ok (.imul, 1) := by decide +kernel
theorem d_LS_triangle_36 : decode b_LS_triangle 36 = .ok (.iload_n 2, 1) := by decide +kernel
theorem d_LS_triangle_37 : decode b_LS_triangle 37 = .ok (.iadd, 1) := by decide +kernel
theorem d_LS_triangle_38 : decode b_LS_triangle 38 = .ok (.iaload, 1) := by decide +kernel
theorem d_LS_triangle_39 : decode b_LS_triangle 39 = .ok (.ireturn, 1) := by decide +kernel
theorem d_LS_turn_0 : decode b_LS_turn 0 = .ok (.iload_n 1, 1) := by decide +kernel
theorem d_LS_turn_1 : decode b_LS_turn 1 = .ok (.ifCond .lt 17, 3) := by decide +kernel
theorem d_LS_turn_4 : decode b_LS_turn 4 = .ok (.iload_n 1, 1) := by decide +kernel
theorem d_LS_turn_5 : decode b_LS_turn 5 = .ok (.iconst 2, 1) := by decide +kernel
theorem d_LS_turn_6 : decode b_LS_turn 6 = .ok (.if_icmp .gt 12, 3) := by decide +kernel
theorem d_LS_turn_9 : decode b_LS_turn 9 = .ok (.iload_n 2, 1) := by decide +kernel
theorem d_LS_turn_10 : decode b_LS_turn 10 = .ok (.ifCond .lt 8, 3) := by decide +kernel
theorem d_LS_turn_13 : decode b_LS_turn 13 = .ok (.iload_n 2, 1) := by decide +kernel
theorem d_LS_turn_14 : decode b_LS_turn 14 = .ok (.iconst 3, 1) := by decide +kernel
theorem d_LS_turn_15 : decode b_LS_turn 15 = .ok (.if_icmp .le 5, 3) := by decide +kernel
theorem d_LS_turn_18 : decode b_LS_turn 18 = .ok (.iconst 0, 1) := by decide +kernel
theorem d_LS_turn_19 : decode b_LS_turn 19 = .ok (.ireturn, 1) := by decide +kernel
theorem d_LS_turn_20 : decode b_LS_turn 20 = .ok (.iconst 0, 1) := by decide +kernel
theorem d_LS_turn_21 : decode b_LS_turn 21 = .ok (.istore_n 3, 1) := by decide +kernel
theorem d_LS_turn_22 : decode b_LS_turn 22 = .ok (.iload_n 3, 1) := by decide +kernel
theorem d_LS_turn_23 : decode b_LS_turn 23 = .ok (.iload_n 2, 1) := by decide +kernel
theorem d_LS_turn_24 : decode b_LS_turn 24 = .ok (.if_icmp .ge 17, 3) := by decide +kernel
theorem d_LS_turn_27 : decode b_LS_turn 27 = .ok (.aload_n 0, 1) := by decide +kernel
theorem d_LS_turn_28 : decode b_LS_turn 28 = .ok (.getfield 12, 3) := by decide +kernel
theorem d_LS_turn_31 : decode b_LS_turn 31 = .ok (.iload_n 1, 1) := by decide +kernel
theorem d_LS_turn_32 : decode b_LS_turn 32 = .ok (.invokevirtual 79, 3) := by decide +kernel
theorem d_LS_turn_35 : decode b_LS_turn 35 = .ok (.iinc 3 1, 3) := by decide +kernel
theorem d_LS_turn_38 : decode b_LS_turn 38 = .ok (.goto (-16), 3) := by decide +kernel
theorem d_LS_turn_41 : decode b_LS_turn 41 = .ok (.iconst 1, 1) := by decide +kernel
theorem d_LS_turn_42 : decode b_LS_turn 42 = .ok (.ireturn, 1) := by decide +kernel
theorem d_LS_layers_0 : decode b_LS_layers 0 = .ok (.iload_n 1, 1) := by decide +kernel
theorem d_LS_layers_1 : decode b_LS_layers 1 = .ok (.iconst 1, 1) := by decide +kernel
theorem d_LS_layers_2 : decode b_LS_layers 2 = .ok (.if_icmp .lt 15, 3) := by decide +kernel
theorem d_LS_layers_5 : decode b_LS_layers 5 = .ok (.iload_n 1, 1) := by decide +kernel
theorem d_LS_layers_6 : decode b_LS_layers 6 = .ok (.bipush 41, 2) := by decide +kernel
theorem d_LS_layers_8 : decode b_LS_layers 8 = .ok (.if_icmp .gt 9, 3) := by decide +kernel
theorem d_LS_layers_11 : decode b_LS_layers 11 = .ok (.iload_n 1, 1) := by decide +kernel
theorem d_LS_layers_12 : decode b_LS_layers 12 = .ok (.iconst 2, 1) := by decide +kernel
theorem d_LS_layers_13 : decode b_LS_layers 13 = .ok (.irem, 1) := by decide +kernel
theorem d_LS_layers_14 : decode b_LS_layers 14 = .ok (.ifCond .ne 5, 3) := by decide +kernel
theorem d_LS_layers_17 : decode b_LS_layers 17 = .ok (.iconst (-1), 1) := by decide +kernel
theorem d_LS_layers_18 : decode b_LS_layers 18 = .ok (.ireturn, 1) := by decide +kernel
theorem d_LS_layers_19 : decode b_LS_layers 19 = .ok (.aload_n 0, 1) := by decide +kernel
theorem d_LS_layers_20 : decode b_LS_layers 20 = .ok (.getfield 26, 3) := by decide +kernel
theorem d_LS_layers_23 : decode b_LS_layers 23 = .ok (.aload_n 0, 1) := by decide +kernel
theorem d_LS_layers_24 : decode b_LS_layers 24 = .ok (.getfield 12, 3) := by decide +kernel
theorem d_LS_layers_27 : decode b_LS_layers 27 = .ok (.iload_n 1, 1) := by decide +kernel
theorem d_LS_layers_28 : decode b_LS_layers 28 = .ok (.invokevirtual 83, 3) := by decide +kernel
theorem d_LS_layers_31 : decode b_LS_layers 31 = .ok (.aload_n 0, 1) := by decide +kernel
theorem d_LS_layers_32 : decode b_LS_layers 32 = .ok (.getfield 33, 3) := by decide +kernel
theorem d_LS_layers_35 : decode b_LS_layers 35 = .ok (.aload_n 0, 1) := by decide +kernel
theorem d_LS_layers_36 : decode b_LS_layers 36 = .ok (.getfield 26, 3) := by decide +kernel
theorem d_LS_layers_39 : decode b_LS_layers 39 = .ok (.invokevirtual 87, 3) := by decide +kernel
theorem d_LS_layers_42 : decode b_LS_layers 42 = .ok (.aload_n 0, 1) := by decide +kernel
theorem d_LS_layers_43 : decode b_LS_layers 43 = .ok (.getfield 47, 3) := by decide +kernel
theorem d_LS_layers_46 : decode b_LS_layers 46 = .ok (.invokevirtual 91, 3) := by decide +kernel
theorem d_LS_layers_49 : decode b_LS_layers 49 = .ok (.aload_n 0, 1) := by decide +kernel
theorem d_LS_layers_50 : decode b_LS_layers 50 = .ok (.getfield 26, 3) := by decide +kernel
theorem d_LS_layers_53 : decode b_LS_layers 53 = .ok (.getfield 94, 3) := by decide +kernel
theorem d_LS_layers_56 : decode b_LS_layers 56 = .ok (.ireturn, 1) := by decide +kernel
theorem d_LS_cut_0 : decode b_LS_cut 0 = .ok (.iload_n 3, 1) := by decide +kernel
theorem d_LS_cut_1 : decode b_LS_cut 1 = .ok (.ifCond .lt 31, 3) := by decide +kernel
theorem d_LS_cut_4 : decode b_LS_cut 4 = .ok (.iload_n 3, 1) := by decide +kernel
theorem d_LS_cut_5 : decode b_LS_cut 5 = .ok (.iconst 1, 1) := by decide +kernel
theorem d_LS_cut_6 : decode b_LS_cut 6 = .ok (.if_icmp .gt 26, 3) := by decide +kernel
theorem d_LS_cut_9 : decode b_LS_cut 9 = .ok (.iload 4, 2) := by decide +kernel
theorem d_LS_cut_11 : decode b_LS_cut 11 = .ok (.ifCond .lt 21, 3) := by decide +kernel
theorem d_LS_cut_14 : decode b_LS_cut 14 = .ok (.iload 4, 2) := by decide +kernel
theorem d_LS_cut_16 : decode b_LS_cut 16 = .ok (.iconst 2, 1) := by decide +kernel
theorem d_LS_cut_17 : decode b_LS_cut 17 = .ok (.if_icmp .gt 15, 3) := by decide +kernel
theorem d_LS_cut_20 : decode b_LS_cut 20 = .ok (.aload_n 0, 1) := by decide +kernel
theorem d_LS_cut_21 : decode b_LS_cut 21 = .ok (.getfield 26, 3) := by decide +kernel
theorem d_LS_cut_24 : decode b_LS_cut 24 = .ok (.iload_n 1, 1) := by decide +kernel
theorem d_LS_cut_25 : decode b_LS_cut 25 = .ok (.iload_n 2, 1) := by decide +kernel
theorem d_LS_cut_26 : decode b_LS_cut 26 = .ok (.invokevirtual 97, 3) := by decide +kernel
theorem d_LS_cut_29 : decode b_LS_cut 29 = .ok (.ifCond .ne 11, 3) := by decide +kernel
theorem d_LS_cut_32 : decode b_LS_cut 32 = .ok (.new 101, 3) := by decide +kernel
theorem d_LS_cut_35 : decode b_LS_cut 35 = .ok (.dup, 1) := by decide +kernel
theorem d_LS_cut_36 : decode b_LS_cut 36 = .ok (.invokespecial 103, 3) := by decide +kernel
theorem d_LS_cut_39 : decode b_LS_cut 39 = .ok (.athrow, 1) := by decide +kernel
theorem d_LS_cut_40 : decode b_LS_cut 40 = .ok (.aload_n 0, 1) := by decide +kernel
theorem d_LS_cut_41 : decode b_LS_cut 41 = .ok (.getfield 26, 3) := by decide +kernel
theorem d_LS_cut_44 : decode b_LS_cut 44 = .ok (.getfield 104, 3) := by decide +kernel
theorem d_LS_cut_47 : decode b_LS_cut 47 = .ok (.iconst 3, 1) := by decide +kernel
theorem d_LS_cut_48 : decode b_LS_cut 48 = .ok (.iload_n 3, 1) := by decide +kernel
theorem d_LS_cut_49 : decode b_LS_cut 49 = .ok (.imul, 1) := by decide +kernel
theorem d_LS_cut_50 : decode b_LS_cut 50 = .ok (.iload 4, 2) := by decide +kernel
theorem d_LS_cut_52 : decode b_LS_cut 52 = .ok (.iadd, 1) := by decide +kernel
theorem d_LS_cut_53 : decode b_LS_cut 53 = .ok (.iaload, 1) := by decide +kernel
theorem d_LS_cut_54 : decode b_LS_cut 54 = .ok (.ireturn, 1) := by decide +kernel
theorem d_LS_solid_0 : decode b_LS_solid 0 = .ok (.iload_n 2, 1) := by decide +kernel
theorem d_LS_solid_1 : decode b_LS_solid 1 = .ok (.ifCond .lt 25, 3) := by decide +kernel
theorem d_LS_solid_4 : decode b_LS_solid 4 = .ok (.iload_n 2, 1) := by decide +kernel
theorem d_LS_solid_5 : decode b_LS_solid 5 = .ok (.bipush 12, 2) := by decide +kernel
theorem d_LS_solid_7 : decode b_LS_solid 7 = .ok (.if_icmp .ge 19, 3) := by decide +kernel
theorem d_LS_solid_10 : decode b_LS_solid 10 = .ok (.aload_n 0, 1) := by decide +kernel
theorem d_LS_solid_11 : decode b_LS_solid 11 = .ok (.getfield 26, 3) := by decide +kernel
theorem d_LS_solid_14 : decode b_LS_solid 14 = .ok (.iload_n 1, 1) := by decide +kernel
theorem d_LS_solid_15 : decode b_LS_solid 15 = .ok (.iload_n 3, 1) := by decide +kernel
theorem d_LS_solid_16 : decode b_LS_solid 16 = .ok (.invokevirtual 107, 3) := by decide +kernel
theorem d_LS_solid_19 : decode b_LS_solid 19 = .ok (.iload_n 2, 1) := by decide +kernel
theorem d_LS_solid_20 : decode b_LS_solid 20 = .ok (.ishr, 1) := by decide +kernel
theorem d_LS_solid_21 : decode b_LS_solid 21 = .ok (.iconst 1, 1) := by decide +kernel
theorem d_LS_solid_22 : decode b_LS_solid 22 = .ok (.iand, 1) := by decide +kernel
theorem d_LS_solid_23 : decode b_LS_solid 23 = .ok (.goto 4, 3) := by decide +kernel
theorem d_LS_solid_26 : decode b_LS_solid 26 = .ok (.iconst 0, 1) := by decide +kernel
theorem d_LS_solid_27 : decode b_LS_solid 27 = .ok (.ireturn, 1) := by decide +kernel
theorem d_LS_settings_0 : decode b_LS_settings 0 = .ok (.aload_n 0, 1) := by decide +kernel
theorem d_LS_settings_1 : decode b_LS_settings 1 = .ok (.getfield 33, 3) := by decide +kernel
theorem d_LS_settings_4 : decode b_LS_settings 4 = .ok (.iload_n 1, 1) := by decide +kernel
theorem d_LS_settings_5 : decode b_LS_settings 5 = .ok (.iload_n 2, 1) := by decide +kernel
theorem d_LS_settings_6 : decode b_LS_settings 6 = .ok (.iload_n 3, 1) := by decide +kernel
theorem d_LS_settings_7 : decode b_LS_settings 7 = .ok (.iload 4, 2) := by decide +kernel
theorem d_LS_settings_9 : decode b_LS_settings 9 = .ok (.iload 5, 2) := by decide +kernel
theorem d_LS_settings_11 : decode b_LS_settings 11 = .ok (.invokevirtual 111, 3) := by decide +kernel
theorem d_LS_settings_14 : decode b_LS_settings 14 = .ok (.ifCond .ne 5, 3) := by decide +kernel
theorem d_LS_settings_17 : decode b_LS_settings 17 = .ok (.iconst 0, 1) := by decide +kernel
theorem d_LS_settings_18 : decode b_LS_settings 18 = .ok (.ireturn, 1) := by decide +kernel
theorem d_LS_settings_19 : decode b_LS_settings 19 = .ok (.aload_n 0, 1) := by decide +kernel
theorem d_LS_settings_20 : decode b_LS_settings 20 = .ok (.getfield 33, 3) := by decide +kernel
theorem d_LS_settings_23 : decode b_LS_settings 23 = .ok (.aload_n 0, 1) := by decide +kernel
theorem d_LS_settings_24 : decode b_LS_settings 24 = .ok (.getfield 26, 3) := by decide +kernel
theorem d_LS_settings_27 : decode b_LS_settings 27 = .ok (.invokevirtual 87, 3) := by decide +kernel
theorem d_LS_settings_30 : decode b_LS_settings 30 = .ok (.iconst 1, 1) := by decide +kernel
theorem d_LS_settings_31 : decode b_LS_settings 31 = .ok (.ireturn, 1) := by decide +kernel
theorem d_LS_kind_0 : decode b_LS_kind 0 = .ok (.aload_n 0, 1) := by decide +kernel
theorem d_LS_kind_1 : decode b_LS_kind 1 = .ok (.getfield 26, 3) := by decide +kernel
theorem d_LS_kind_4 : decode b_LS_kind 4 = .ok (.iload_n 1, 1) := by decide +kernel
theorem d_LS_kind_5 : decode b_LS_kind 5 = .ok (.iload_n 3, 1) := by decide +kernel
theorem d_LS_kind_6 : decode b_LS_kind 6 = .ok (.invokevirtual 115, 3) := by decide +kernel
theorem d_LS_kind_9 : decode b_LS_kind 9 = .ok (.ifCond .eq 26, 3) := by decide +kernel
theorem d_LS_kind_12 : decode b_LS_kind 12 = .ok (.iload_n 2, 1) := by decide +kernel
theorem d_LS_kind_13 : decode b_LS_kind 13 = .ok (.ifCond .lt 22, 3) := by decide +kernel
theorem d_LS_kind_16 : decode b_LS_kind 16 = .ok (.iload_n 2, 1) := by decide +kernel
theorem d_LS_kind_17 : decode b_LS_kind 17 = .ok (.bipush 12, 2) := by decide +kernel
theorem d_LS_kind_19 : decode b_LS_kind 19 = .ok (.if_icmp .ge 16, 3) := by decide +kernel
theorem d_LS_kind_22 : decode b_LS_kind 22 = .ok (.aload_n 0, 1) := by decide +kernel
theorem d_LS_kind_23 : decode b_LS_kind 23 = .ok (.getfield 33, 3) := by decide +kernel
theorem d_LS_kind_26 : decode b_LS_kind 26 = .ok (.iload_n 1, 1) := by decide +kernel
theorem d_LS_kind_27 : decode b_LS_kind 27 = .ok (.iload_n 2, 1) := by decide +kernel
theorem d_LS_kind_28 : decode b_LS_kind 28 = .ok (.iload_n 3, 1) := by decide +kernel
theorem d_LS_kind_29 : decode b_LS_kind 29 = .ok (.invokevirtual 118, 3) := by decide +kernel
theorem d_LS_kind_32 : decode b_LS_kind 32 = .ok (.goto 4, 3) := by decide +kernel
theorem d_LS_kind_35 : decode b_LS_kind 35 = .ok (.iconst 0, 1) := by decide +kernel
theorem d_LS_kind_36 : decode b_LS_kind 36 = .ok (.ireturn, 1) := by decide +kernel
theorem d_LS_paths_0 : decode b_LS_paths 0 = .ok (.aload_n 0, 1) := by decide +kernel
theorem d_LS_paths_1 : decode b_LS_paths 1 = .ok (.getfield 26, 3) := by decide +kernel
theorem d_LS_paths_4 : decode b_LS_paths 4 = .ok (.iload_n 1, 1) := by decide +kernel
theorem d_LS_paths_5 : decode b_LS_paths 5 = .ok (.invokevirtual 121, 3) := by decide +kernel
theorem d_LS_paths_8 : decode b_LS_paths 8 = .ok (.ifCond .eq 18, 3) := by decide +kernel
theorem d_LS_paths_11 : decode b_LS_paths 11 = .ok (.aload_n 0, 1) := by decide +kernel
theorem d_LS_paths_12 : decode b_LS_paths 12 = .ok (.getfield 40, 3) := by decide +kernel
theorem d_LS_paths_15 : decode b_LS_paths 15 = .ok (.aload_n 0, 1) := by decide +kernel
theorem d_LS_paths_16 : decode b_LS_paths 16 = .ok (.getfield 33, 3) := by decide +kernel
theorem d_LS_paths_19 : decode b_LS_paths 19 = .ok (.iload_n 1, 1) := by decide +kernel
theorem d_LS_paths_20 : decode b_LS_paths 20 = .ok (.invokevirtual 125, 3) := by decide +kernel
theorem d_LS_paths_23 : decode b_LS_paths 23 = .ok (.goto 4, 3) := by decide +kernel
theorem d_LS_paths_26 : decode b_LS_paths 26 = .ok (.iconst 0, 1) := by decide +kernel
theorem d_LS_paths_27 : decode b_LS_paths 27 = .ok (.ireturn, 1) := by decide +kernel
theorem d_LS_path_0 : decode b_LS_path 0 = .ok (.iload_n 3, 1) := by decide +kernel
theorem d_LS_path_1 : decode b_LS_path 1 = .ok (.ifCond .lt 39, 3) := by decide +kernel
theorem d_LS_path_4 : decode b_LS_path 4 = .ok (.iload_n 3, 1) := by decide +kernel
theorem d_LS_path_5 : decode b_LS_path 5 = .ok (.iconst 3, 1) := by decide +kernel
theorem d_LS_path_6 : decode b_LS_path 6 = .ok (.if_icmp .gt 34, 3) := by decide +kernel
theorem d_LS_path_9 : decode b_LS_path 9 = .ok (.iload_n 2, 1) := by decide +kernel
theorem d_LS_path_10 : decode b_LS_path 10 = .ok (.ifCond .lt 30, 3) := by decide +kernel
theorem d_LS_path_13 : decode b_LS_path 13 = .ok (.aload_n 0, 1) := by decide +kernel
theorem d_LS_path_14 : decode b_LS_path 14 = .ok (.getfield 26, 3) := by decide +kernel
theorem d_LS_path_17 : decode b_LS_path 17 = .ok (.iload_n 1, 1) := by decide +kernel
theorem d_LS_path_18 : decode b_LS_path 18 = .ok (.invokevirtual 121, 3) := by decide +kernel
theorem d_LS_path_21 : decode b_LS_path 21 = .ok (.ifCond .eq 19, 3) := by decide +kernel
theorem d_LS_path_24 : decode b_LS_path 24 = .ok (.iload_n 2, 1) := by decide +kernel
theorem d_LS_path_25 : decode b_LS_path 25 = .ok (.aload_n 0, 1) := by decide +kernel
theorem d_LS_path_26 : decode b_LS_path 26 = .ok (.getfield 40, 3) := by decide +kernel
theorem d_LS_path_29 : decode b_LS_path 29 = .ok (.aload_n 0, 1) := by decide +kernel
theorem d_LS_path_30 : decode b_LS_path 30 = .ok (.getfield 33, 3) := by decide +kernel
theorem d_LS_path_33 : decode b_LS_path 33 = .ok (.iload_n 1, 1) := by decide +kernel
theorem d_LS_path_34 : decode b_LS_path 34 = .ok (.invokevirtual 125, 3) := by decide +kernel
theorem d_LS_path_37 : decode b_LS_path 37 = .ok (.if_icmp .lt 11, 3) := by decide +kernel
theorem d_LS_path_40 : decode b_LS_path 40 = .ok (.new 101, 3) := by decide +kernel
theorem d_LS_path_43 : decode b_LS_path 43 = .ok (.dup, 1) := by decide +kernel
theorem d_LS_path_44 : decode b_LS_path 44 = .ok (.invokespecial 103, 3) := by decide +kernel
theorem d_LS_path_47 : decode b_LS_path 47 = .ok (.athrow, 1) := by decide +kernel
theorem d_LS_path_48 : decode b_LS_path 48 = .ok (.aload_n 0, 1) := by decide +kernel
theorem d_LS_path_49 : decode b_LS_path 49 = .ok (.getfield 40, 3) := by decide +kernel
theorem d_LS_path_52 : decode b_LS_path 52 = .ok (.getfield 129, 3) := by decide +kernel
theorem d_LS_path_55 : decode b_LS_path 55 = .ok (.iconst 4, 1) := by decide +kernel
theorem d_LS_path_56 : decode b_LS_path 56 = .ok (.iload_n 2, 1) := by decide +kernel
theorem d_LS_path_57 : decode b_LS_path 57 = .ok (.imul, 1) := by decide +kernel
theorem d_LS_path_58 : decode b_LS_path 58 = .ok (.iload_n 3, 1) := by decide +kernel
theorem d_LS_path_59 : decode b_LS_path 59 = .ok (.iadd, 1) := by decide +kernel
theorem d_LS_path_60 : decode b_LS_path 60 = .ok (.iaload, 1) := by decide +kernel
theorem d_LS_path_61 : decode b_LS_path 61 = .ok (.ireturn, 1) := by decide +kernel
theorem d_LS_emit_0 : decode b_LS_emit 0 = .ok (.aload_n 0, 1) := by decide +kernel
theorem d_LS_emit_1 : decode b_LS_emit 1 = .ok (.getfield 47, 3) := by decide +kernel
theorem d_LS_emit_4 : decode b_LS_emit 4 = .ok (.invokevirtual 91, 3) := by decide +kernel
theorem d_LS_emit_7 : decode b_LS_emit 7 = .ok (.iconst 0, 1) := by decide +kernel
theorem d_LS_emit_8 : decode b_LS_emit 8 = .ok (.istore_n 1, 1) := by decide +kernel
theorem d_LS_emit_9 : decode b_LS_emit 9 = .ok (.iload_n 1, 1) := by decide +kernel
theorem d_LS_emit_10 : decode b_LS_emit 10 = .ok (.aload_n 0, 1) := by decide +kernel
theorem d_LS_emit_11 : decode b_LS_emit 11 = .ok (.getfield 26, 3) := by decide +kernel
theorem d_LS_emit_14 : decode b_LS_emit 14 = .ok (.getfield 94, 3) := by decide +kernel
theorem d_LS_emit_17 : decode b_LS_emit 17 = .ok (.if_icmp .ge 32, 3) := by decide +kernel
theorem d_LS_emit_20 : decode b_LS_emit 20 = .ok (.aload_n 0, 1) := by decide +kernel
theorem d_LS_emit_21 : decode b_LS_emit 21 = .ok (.getfield 47, 3) := by decide +kernel
theorem d_LS_emit_24 : decode b_LS_emit 24 = .ok (.aload_n 0, 1) := by decide +kernel
theorem d_LS_emit_25 : decode b_LS_emit 25 = .ok (.getfield 40, 3) := by decide +kernel
theorem d_LS_emit_28 : decode b_LS_emit 28 = .ok (.aload_n 0, 1) := by decide +kernel
theorem d_LS_emit_29 : decode b_LS_emit 29 = .ok (.getfield 40, 3) := by decide +kernel
theorem d_LS_emit_32 : decode b_LS_emit 32 = .ok (.aload_n 0, 1) := by decide +kernel
theorem d_LS_emit_33 : decode b_LS_emit 33 = .ok (.getfield 33, 3) := by decide +kernel
theorem d_LS_emit_36 : decode b_LS_emit 36 = .ok (.iload_n 1, 1) := by decide +kernel
theorem d_LS_emit_37 : decode b_LS_emit 37 = .ok (.invokevirtual 125, 3) := by decide +kernel
theorem d_LS_emit_40 : decode b_LS_emit 40 = .ok (.invokevirtual 132, 3) := by decide +kernel
theorem d_LS_emit_43 : decode b_LS_emit 43 = .ok (.iinc 1 1, 3) := by decide +kernel
theorem d_LS_emit_46 : decode b_LS_emit 46 = .ok (.goto (-37), 3) := by decide +kernel
theorem d_LS_emit_49 : decode b_LS_emit 49 = .ok (.aload_n 0, 1) := by decide +kernel
theorem d_LS_emit_50 : decode b_LS_emit 50 = .ok (.getfield 47, 3) := by decide +kernel
theorem d_LS_emit_53 : decode b_LS_emit 53 = .ok (.getfield 136, 3) := by decide +kernel
theorem d_LS_emit_56 : decode b_LS_emit 56 = .ok (.ireturn, 1) := by decide +kernel
theorem d_LS_byteOf_0 : decode b_LS_byteOf 0 = .ok (.iload_n 1, 1) := by decide +kernel
theorem d_LS_byteOf_1 : decode b_LS_byteOf 1 = .ok (.ifCond .lt 26, 3) := by decide +kernel
theorem d_LS_byteOf_4 : decode b_LS_byteOf 4 = .ok (.iload_n 1, 1) := by decide +kernel
theorem d_LS_byteOf_5 : decode b_LS_byteOf 5 = .ok (.aload_n 0, 1) := by decide +kernel
theorem d_LS_byteOf_6 : decode b_LS_byteOf 6 = .ok (.getfield 47, 3) := by decide +kernel
theorem d_LS_byteOf_9 : decode b_LS_byteOf 9 = .ok (.getfield 136, 3) := by decide +kernel
theorem d_LS_byteOf_12 : decode b_LS_byteOf 12 = .ok (.if_icmp .ge 15, 3) := by decide +kernel
theorem d_LS_byteOf_15 : decode b_LS_byteOf 15 = .ok (.aload_n 0, 1) := by decide +kernel
theorem d_LS_byteOf_16 : decode b_LS_byteOf 16 = .ok (.getfield 47, 3) := by decide +kernel
theorem d_LS_byteOf_19 : decode b_LS_byteOf 19 = .ok (.getfield 139, 3) := by decide +kernel
theorem d_LS_byteOf_22 : decode b_LS_byteOf 22 = .ok (.iload_n 1, 1) := by decide +kernel
theorem d_LS_byteOf_23 : decode b_LS_byteOf 23 = .ok (.iaload, 1) := by decide +kernel
theorem d_LS_byteOf_24 : decode b_LS_byteOf 24 = .ok (.goto 4, 3) := by decide +kernel
theorem d_LS_byteOf_27 : decode b_LS_byteOf 27 = .ok (.iconst (-1), 1) := by decide +kernel
theorem d_LS_byteOf_28 : decode b_LS_byteOf 28 = .ok (.ireturn, 1) := by decide +kernel
theorem d_LS_cellIndex_0 : decode b_LS_cellIndex 0 = .ok (.iload_n 0, 1) := by decide +kernel
theorem d_LS_cellIndex_1 : decode b_LS_cellIndex 1 = .ok (.bipush 12, 2) := by decide +kernel
theorem d_LS_cellIndex_3 : decode b_LS_cellIndex 3 = .ok (.imul, 1) := by decide +kernel
theorem d_LS_cellIndex_4 : decode b_LS_cellIndex 4 = .ok (.iload_n 2, 1) := by decide +kernel
theorem d_LS_cellIndex_5 : decode b_LS_cellIndex 5 = .ok (.iadd, 1) := by decide +kernel
theorem d_LS_cellIndex_6 : decode b_LS_cellIndex 6 = .ok (.bipush 12, 2) := by decide +kernel
theorem d_LS_cellIndex_8 : decode b_LS_cellIndex 8 = .ok (.imul, 1) := by decide +kernel
theorem d_LS_cellIndex_9 : decode b_LS_cellIndex 9 = .ok (.iload_n 1, 1) := by decide +kernel
theorem d_LS_cellIndex_10 : decode b_LS_cellIndex 10 = .ok (.iadd, 1) := by decide +kernel
theorem d_LS_cellIndex_11 : decode b_LS_cellIndex 11 = .ok (.ireturn, 1) := by decide +kernel
theorem d_LS_play_0 : decode b_LS_play 0 = .ok (.aload_n 0, 1) := by decide +kernel
theorem d_LS_play_1 : decode b_LS_play 1 = .ok (.getfield 47, 3) := by decide +kernel
theorem d_LS_play_4 : decode b_LS_play 4 = .ok (.iload_n 1, 1) := by decide +kernel
theorem d_LS_play_5 : decode b_LS_play 5 = .ok (.invokevirtual 142, 3) := by decide +kernel
theorem d_LS_play_8 : decode b_LS_play 8 = .ok (.ireturn, 1) := by decide +kernel
theorem d_LS_isCell_0 : decode b_LS_isCell 0 = .ok (.iload_n 0, 1) := by decide +kernel
theorem d_LS_isCell_1 : decode b_LS_isCell 1 = .ok (.ifCond .lt 33, 3) := by decide +kernel
theorem d_LS_isCell_4 : decode b_LS_isCell 4 = .ok (.iload_n 0, 1) := by decide +kernel
theorem d_LS_isCell_5 : decode b_LS_isCell 5 = .ok (.bipush 24, 2) := by decide +kernel
theorem d_LS_isCell_7 : decode b_LS_isCell 7 = .ok (.if_icmp .ge 27, 3) := by decide +kernel
theorem d_LS_isCell_10 : decode b_LS_isCell 10 = .ok (.iload_n 1, 1) := by decide +kernel
theorem d_LS_isCell_11 : decode b_LS_isCell 11 = .ok (.ifCond .lt 23, 3) := by decide +kernel
theorem d_LS_isCell_14 : decode b_LS_isCell 14 = .ok (.iload_n 1, 1) := by decide +kernel
theorem d_LS_isCell_15 : decode b_LS_isCell 15 = .ok (.bipush 12, 2) := by decide +kernel
theorem d_LS_isCell_17 : decode b_LS_isCell 17 = .ok (.if_icmp .ge 17, 3) := by decide +kernel
theorem d_LS_isCell_20 : decode b_LS_isCell 20 = .ok (.iload_n 2, 1) := by decide +kernel
theorem d_LS_isCell_21 : decode b_LS_isCell 21 = .ok (.ifCond .lt 13, 3) := by decide +kernel
theorem d_LS_isCell_24 : decode b_LS_isCell 24 = .ok (.iload_n 2, 1) := by decide +kernel
theorem d_LS_isCell_25 : decode b_LS_isCell 25 = .ok (.bipush 12, 2) := by decide +kernel
theorem d_LS_isCell_27 : decode b_LS_isCell 27 = .ok (.if_icmp .ge 7, 3) := by decide +kernel
theorem d_LS_isCell_30 : decode b_LS_isCell 30 = .ok (.iconst 1, 1) := by decide +kernel
theorem d_LS_isCell_31 : decode b_LS_isCell 31 = .ok (.goto 4, 3) := by decide +kernel
theorem d_LS_isCell_34 : decode b_LS_isCell 34 = .ok (.iconst 0, 1) := by decide +kernel
theorem d_LS_isCell_35 : decode b_LS_isCell 35 = .ok (.ireturn, 1) := by decide +kernel
theorem d_LS_laid_0 : decode b_LS_laid 0 = .ok (.iload_n 1, 1) := by decide +kernel
theorem d_LS_laid_1 : decode b_LS_laid 1 = .ok (.iload_n 2, 1) := by decide +kernel
theorem d_LS_laid_2 : decode b_LS_laid 2 = .ok (.iload_n 3, 1) := by decide +kernel
theorem d_LS_laid_3 : decode b_LS_laid 3 = .ok (.invokestatic 146, 3) := by decide +kernel
theorem d_LS_laid_6 : decode b_LS_laid 6 = .ok (.ifCond .eq 20, 3) := by decide +kernel
theorem d_LS_laid_9 : decode b_LS_laid 9 = .ok (.aload_n 0, 1) := by decide +kernel
theorem d_LS_laid_10 : decode b_LS_laid 10 = .ok (.getfield 47, 3) := by decide +kernel
theorem d_LS_laid_13 : decode b_LS_laid 13 = .ok (.getfield 150, 3) := by decide +kernel
theorem d_LS_laid_16 : decode b_LS_laid 16 = .ok (.iload_n 1, 1) := by decide +kernel
theorem d_LS_laid_17 : decode b_LS_laid 17 = .ok (.iload_n 2, 1) := by decide +kernel
theorem d_LS_laid_18 : decode b_LS_laid 18 = .ok (.iload_n 3, 1) := by decide +kernel
theorem d_LS_laid_19 : decode b_LS_laid 19 = .ok (.invokestatic 153, 3) := by decide +kernel
theorem d_LS_laid_22 : decode b_LS_laid 22 = .ok (.iaload, 1) := by decide +kernel
theorem d_LS_laid_23 : decode b_LS_laid 23 = .ok (.goto 4, 3) := by decide +kernel
theorem d_LS_laid_26 : decode b_LS_laid 26 = .ok (.iconst 0, 1) := by decide +kernel
theorem d_LS_laid_27 : decode b_LS_laid 27 = .ok (.ireturn, 1) := by decide +kernel
theorem d_LS_countCells_0 : decode b_LS_countCells 0 = .ok (.iconst 0, 1) := by decide +kernel
theorem d_LS_countCells_1 : decode b_LS_countCells 1 = .ok (.istore_n 3, 1) := by decide +kernel
theorem d_LS_countCells_2 : decode b_LS_countCells 2 = .ok (.iload_n 1, 1) := by decide +kernel
theorem d_LS_countCells_3 : decode b_LS_countCells 3 = .ok (.istore 4, 2) := by decide +kernel
theorem d_LS_countCells_5 : decode b_LS_countCells 5 = .ok (.iload 4, 2) := by decide +kernel
theorem d_LS_countCells_7 : decode b_LS_countCells 7 = .ok (.iload_n 2, 1) := by decide +kernel
theorem d_LS_countCells_8 : decode b_LS_countCells 8 = .ok (.if_icmp .ge 19, 3) := by decide +kernel
theorem d_LS_countCells_11 : decode b_LS_countCells 11 = .ok (.iload_n 3, 1) := by decide +kernel
theorem d_LS_countCells_12 : decode b_LS_countCells 12 = .ok (.aload_n 0, 1) := by decide +kernel
theorem d_LS_countCells_13 : decode b_LS_countCells 13 = .ok (.iload 4, 2) := by decide +kernel
theorem d_LS_countCells_15 : decode b_LS_countCells 15 = .ok (.iaload, 1) := by decide +kernel
theorem d_LS_countCells_16 : decode b_LS_countCells 16 = .ok (.invokestatic 167, 3) := by decide +kernel
theorem d_LS_countCells_19 : decode b_LS_countCells 19 = .ok (.iadd, 1) := by decide +kernel
theorem d_LS_countCells_20 : decode b_LS_countCells 20 = .ok (.istore_n 3, 1) := by decide +kernel
theorem d_LS_countCells_21 : decode b_LS_countCells 21 = .ok (.iinc 4 1, 3) := by decide +kernel
theorem d_LS_countCells_24 : decode b_LS_countCells 24 = .ok (.goto (-19), 3) := by decide +kernel
theorem d_LS_countCells_27 : decode b_LS_countCells 27 = .ok (.iload_n 3, 1) := by decide +kernel
theorem d_LS_countCells_28 : decode b_LS_countCells 28 = .ok (.ireturn, 1) := by decide +kernel
theorem d_LS_overhang_0 : decode b_LS_overhang 0 = .ok (.aload_n 0, 1) := by decide +kernel
theorem d_LS_overhang_1 : decode b_LS_overhang 1 = .ok (.getfield 26, 3) := by decide +kernel
theorem d_LS_overhang_4 : decode b_LS_overhang 4 = .ok (.iload_n 1, 1) := by decide +kernel
theorem d_LS_overhang_5 : decode b_LS_overhang 5 = .ok (.invokevirtual 121, 3) := by decide +kernel
theorem d_LS_overhang_8 : decode b_LS_overhang 8 = .ok (.ifCond .eq 27, 3) := by decide +kernel
theorem d_LS_overhang_11 : decode b_LS_overhang 11 = .ok (.aload_n 0, 1) := by decide +kernel
theorem d_LS_overhang_12 : decode b_LS_overhang 12 = .ok (.getfield 33, 3) := by decide +kernel
theorem d_LS_overhang_15 : decode b_LS_overhang 15 = .ok (.getfield 156, 3) := by decide +kernel
theorem d_LS_overhang_18 : decode b_LS_overhang 18 = .ok (.iload_n 1, 1) := by decide +kernel
theorem d_LS_overhang_19 : decode b_LS_overhang 19 = .ok (.bipush 12, 2) := by decide +kernel
theorem d_LS_overhang_21 : decode b_LS_overhang 21 = .ok (.imul, 1) := by decide +kernel
theorem d_LS_overhang_22 : decode b_LS_overhang 22 = .ok (.iload_n 1, 1) := by decide +kernel
theorem d_LS_overhang_23 : decode b_LS_overhang 23 = .ok (.bipush 12, 2) := by decide +kernel
theorem d_LS_overhang_25 : decode b_LS_overhang 25 = .ok (.imul, 1) := by decide +kernel
theorem d_LS_overhang_26 : decode b_LS_overhang 26 = .ok (.bipush 12, 2) := by decide +kernel
theorem d_LS_overhang_28 : decode b_LS_overhang 28 = .ok (.iadd, 1) := by decide +kernel
theorem d_LS_overhang_29 : decode b_LS_overhang 29 = .ok (.invokestatic 159, 3) := by decide +kernel
theorem d_LS_overhang_32 : decode b_LS_overhang 32 = .ok (.goto 4, 3) := by decide +kernel
theorem d_LS_overhang_35 : decode b_LS_overhang 35 = .ok (.iconst 0, 1) := by decide +kernel
theorem d_LS_overhang_36 : decode b_LS_overhang 36 = .ok (.ireturn, 1) := by decide +kernel
theorem d_LS_volume_0 : decode b_LS_volume 0 = .ok (.iload_n 1, 1) := by decide +kernel
theorem d_LS_volume_1 : decode b_LS_volume 1 = .ok (.ifCond .lt 35, 3) := by decide +kernel
theorem d_LS_volume_4 : decode b_LS_volume 4 = .ok (.iload_n 1, 1) := by decide +kernel
theorem d_LS_volume_5 : decode b_LS_volume 5 = .ok (.bipush 7, 2) := by decide +kernel
theorem d_LS_volume_7 : decode b_LS_volume 7 = .ok (.if_icmp .ge 29, 3) := by decide +kernel
theorem d_LS_volume_10 : decode b_LS_volume 10 = .ok (.aload_n 0, 1) := by decide +kernel
theorem d_LS_volume_11 : decode b_LS_volume 11 = .ok (.getfield 33, 3) := by decide +kernel
theorem d_LS_volume_14 : decode b_LS_volume 14 = .ok (.getfield 163, 3) := by decide +kernel
theorem d_LS_volume_17 : decode b_LS_volume 17 = .ok (.iload_n 1, 1) := by decide +kernel
theorem d_LS_volume_18 : decode b_LS_volume 18 = .ok (.aaload, 1) := by decide +kernel
theorem d_LS_volume_19 : decode b_LS_volume 19 = .ok (.iconst 0, 1) := by decide +kernel
theorem d_LS_volume_20 : decode b_LS_volume 20 = .ok (.aload_n 0, 1) := by decide +kernel
theorem d_LS_volume_21 : decode b_LS_volume 21 = .ok (.getfield 26, 3) := by decide +kernel
theorem d_LS_volume_24 : decode b_LS_volume 24 = .ok (.getfield 94, 3) := by decide +kernel
theorem d_LS_volume_27 : decode b_LS_volume 27 = .ok (.bipush 12, 2) := by decide +kernel
theorem d_LS_volume_29 : decode b_LS_volume 29 = .ok (.imul, 1) := by decide +kernel
theorem d_LS_volume_30 : decode b_LS_volume 30 = .ok (.invokestatic 159, 3) := by decide +kernel
theorem d_LS_volume_33 : decode b_LS_volume 33 = .ok (.goto 4, 3) := by decide +kernel
theorem d_LS_volume_36 : decode b_LS_volume 36 = .ok (.iconst (-1), 1) := by decide +kernel
theorem d_LS_volume_37 : decode b_LS_volume 37 = .ok (.ireturn, 1) := by decide +kernel
