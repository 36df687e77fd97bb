/-! decode rows, by program (wip/whole/gen03.py) -/
theorem d_N_init_0 : decode m_N_init.2.1 0 = .ok (.aload_n 0, 1) := by decide +kernel
theorem d_N_init_1 : decode m_N_init.2.1 1 = .ok (.invokespecial 1, 3) := by decide +kernel
theorem d_N_init_4 : decode m_N_init.2.1 4 = .ok (.new 7, 3) := by decide +kernel
theorem d_N_init_7 : decode m_N_init.2.1 7 = .ok (.dup, 1) := by decide +kernel
theorem d_N_init_8 : decode m_N_init.2.1 8 = .ok (.invokespecial 9, 3) := by decide +kernel
theorem d_N_init_11 : decode m_N_init.2.1 11 = .ok (.astore_n 1, 1) := by decide +kernel
theorem d_N_init_12 : decode m_N_init.2.1 12 = .ok (.new 10, 3) := by decide +kernel
theorem d_N_init_15 : decode m_N_init.2.1 15 = .ok (.dup, 1) := by decide +kernel
theorem d_N_init_16 : decode m_N_init.2.1 16 = .ok (.invokespecial 12, 3) := by decide +kernel
theorem d_N_init_19 : decode m_N_init.2.1 19 = .ok (.astore_n 2, 1) := by decide +kernel
theorem d_N_init_20 : decode m_N_init.2.1 20 = .ok (.aload_n 0, 1) := by decide +kernel
theorem d_N_init_21 : decode m_N_init.2.1 21 = .ok (.aload_n 1, 1) := by decide +kernel
theorem d_N_init_22 : decode m_N_init.2.1 22 = .ok (.putfield 13, 3) := by decide +kernel
theorem d_N_init_25 : decode m_N_init.2.1 25 = .ok (.aload_n 0, 1) := by decide +kernel
theorem d_N_init_26 : decode m_N_init.2.1 26 = .ok (.aload_n 2, 1) := by decide +kernel
theorem d_N_init_27 : decode m_N_init.2.1 27 = .ok (.putfield 19, 3) := by decide +kernel
theorem d_N_init_30 : decode m_N_init.2.1 30 = .ok (.aload_n 0, 1) := by decide +kernel
theorem d_N_init_31 : decode m_N_init.2.1 31 = .ok (.new 10, 3) := by decide +kernel
theorem d_N_init_34 : decode m_N_init.2.1 34 = .ok (.dup, 1) := by decide +kernel
theorem d_N_init_35 : decode m_N_init.2.1 35 = .ok (.invokespecial 12, 3) := by decide +kernel
theorem d_N_init_38 : decode m_N_init.2.1 38 = .ok (.putfield 23, 3) := by decide +kernel
theorem d_N_init_41 : decode m_N_init.2.1 41 = .ok (.aload_n 0, 1) := by decide +kernel
theorem d_N_init_42 : decode m_N_init.2.1 42 = .ok (.new 26, 3) := by decide +kernel
theorem d_N_init_45 : decode m_N_init.2.1 45 = .ok (.dup, 1) := by decide +kernel
theorem d_N_init_46 : decode m_N_init.2.1 46 = .ok (.aload_n 1, 1) := by decide +kernel
theorem d_N_init_47 : decode m_N_init.2.1 47 = .ok (.invokespecial 28, 3) := by decide +kernel
theorem d_N_init_50 : decode m_N_init.2.1 50 = .ok (.putfield 31, 3) := by decide +kernel
theorem d_N_init_53 : decode m_N_init.2.1 53 = .ok (.aload_n 0, 1) := by decide +kernel
theorem d_N_init_54 : decode m_N_init.2.1 54 = .ok (.new 35, 3) := by decide +kernel
theorem d_N_init_57 : decode m_N_init.2.1 57 = .ok (.dup, 1) := by decide +kernel
theorem d_N_init_58 : decode m_N_init.2.1 58 = .ok (.aload_n 1, 1) := by decide +kernel
theorem d_N_init_59 : decode m_N_init.2.1 59 = .ok (.aload_n 2, 1) := by decide +kernel
theorem d_N_init_60 : decode m_N_init.2.1 60 = .ok (.invokespecial 37, 3) := by decide +kernel
theorem d_N_init_63 : decode m_N_init.2.1 63 = .ok (.putfield 40, 3) := by decide +kernel
theorem d_N_init_66 : decode m_N_init.2.1 66 = .ok (.return_, 1) := by decide +kernel
theorem d_D_init_0 : decode m_D_init.2.1 0 = .ok (.aload_n 0, 1) := by decide +kernel
theorem d_D_init_1 : decode m_D_init.2.1 1 = .ok (.invokespecial 3, 3) := by decide +kernel
theorem d_D_init_4 : decode m_D_init.2.1 4 = .ok (.aload_n 0, 1) := by decide +kernel
theorem d_D_init_5 : decode m_D_init.2.1 5 = .ok (.sipush 1440, 3) := by decide +kernel
theorem d_D_init_8 : decode m_D_init.2.1 8 = .ok (.newarray .int, 2) := by decide +kernel
theorem d_D_init_10 : decode m_D_init.2.1 10 = .ok (.putfield 11, 3) := by decide +kernel
theorem d_D_init_13 : decode m_D_init.2.1 13 = .ok (.return_, 1) := by decide +kernel
theorem d_W_init_0 : decode m_W_init.2.1 0 = .ok (.aload_n 0, 1) := by decide +kernel
theorem d_W_init_1 : decode m_W_init.2.1 1 = .ok (.invokespecial 3, 3) := by decide +kernel
theorem d_W_init_4 : decode m_W_init.2.1 4 = .ok (.aload_n 0, 1) := by decide +kernel
theorem d_W_init_5 : decode m_W_init.2.1 5 = .ok (.bipush 120, 2) := by decide +kernel
theorem d_W_init_7 : decode m_W_init.2.1 7 = .ok (.newarray .int, 2) := by decide +kernel
theorem d_W_init_9 : decode m_W_init.2.1 9 = .ok (.putfield 9, 3) := by decide +kernel
theorem d_W_init_12 : decode m_W_init.2.1 12 = .ok (.return_, 1) := by decide +kernel
theorem d_P_init_0 : decode m_P_init.2.1 0 = .ok (.aload_n 0, 1) := by decide +kernel
theorem d_P_init_1 : decode m_P_init.2.1 1 = .ok (.invokespecial 3, 3) := by decide +kernel
theorem d_P_init_4 : decode m_P_init.2.1 4 = .ok (.aload_n 0, 1) := by decide +kernel
theorem d_P_init_5 : decode m_P_init.2.1 5 = .ok (.new 9, 3) := by decide +kernel
theorem d_P_init_8 : decode m_P_init.2.1 8 = .ok (.dup, 1) := by decide +kernel
theorem d_P_init_9 : decode m_P_init.2.1 9 = .ok (.invokespecial 11, 3) := by decide +kernel
theorem d_P_init_12 : decode m_P_init.2.1 12 = .ok (.putfield 12, 3) := by decide +kernel
theorem d_P_init_15 : decode m_P_init.2.1 15 = .ok (.aload_n 0, 1) := by decide +kernel
theorem d_P_init_16 : decode m_P_init.2.1 16 = .ok (.new 9, 3) := by decide +kernel
theorem d_P_init_19 : decode m_P_init.2.1 19 = .ok (.dup, 1) := by decide +kernel
theorem d_P_init_20 : decode m_P_init.2.1 20 = .ok (.invokespecial 11, 3) := by decide +kernel
theorem d_P_init_23 : decode m_P_init.2.1 23 = .ok (.putfield 18, 3) := by decide +kernel
theorem d_P_init_26 : decode m_P_init.2.1 26 = .ok (.aload_n 0, 1) := by decide +kernel
theorem d_P_init_27 : decode m_P_init.2.1 27 = .ok (.aload_n 1, 1) := by decide +kernel
theorem d_P_init_28 : decode m_P_init.2.1 28 = .ok (.putfield 21, 3) := by decide +kernel
theorem d_P_init_31 : decode m_P_init.2.1 31 = .ok (.return_, 1) := by decide +kernel
theorem d_R_init_0 : decode m_R_init.2.1 0 = .ok (.aload_n 0, 1) := by decide +kernel
theorem d_R_init_1 : decode m_R_init.2.1 1 = .ok (.invokespecial 3, 3) := by decide +kernel
theorem d_R_init_4 : decode m_R_init.2.1 4 = .ok (.aload_n 0, 1) := by decide +kernel
theorem d_R_init_5 : decode m_R_init.2.1 5 = .ok (.new 9, 3) := by decide +kernel
theorem d_R_init_8 : decode m_R_init.2.1 8 = .ok (.dup, 1) := by decide +kernel
theorem d_R_init_9 : decode m_R_init.2.1 9 = .ok (.invokespecial 11, 3) := by decide +kernel
theorem d_R_init_12 : decode m_R_init.2.1 12 = .ok (.putfield 12, 3) := by decide +kernel
theorem d_R_init_15 : decode m_R_init.2.1 15 = .ok (.aload_n 0, 1) := by decide +kernel
theorem d_R_init_16 : decode m_R_init.2.1 16 = .ok (.aload_n 1, 1) := by decide +kernel
theorem d_R_init_17 : decode m_R_init.2.1 17 = .ok (.putfield 18, 3) := by decide +kernel
theorem d_R_init_20 : decode m_R_init.2.1 20 = .ok (.aload_n 0, 1) := by decide +kernel
theorem d_R_init_21 : decode m_R_init.2.1 21 = .ok (.aload_n 2, 1) := by decide +kernel
theorem d_R_init_22 : decode m_R_init.2.1 22 = .ok (.putfield 22, 3) := by decide +kernel
theorem d_R_init_25 : decode m_R_init.2.1 25 = .ok (.return_, 1) := by decide +kernel
theorem d_N_of_0 : decode m_N_of.2.1 0 = .ok (.aload_n 0, 1) := by decide +kernel
theorem d_N_of_1 : decode m_N_of.2.1 1 = .ok (.getfield 13, 3) := by decide +kernel
theorem d_N_of_4 : decode m_N_of.2.1 4 = .ok (.invokevirtual 44, 3) := by decide +kernel
theorem d_N_of_7 : decode m_N_of.2.1 7 = .ok (.aload_n 0, 1) := by decide +kernel
theorem d_N_of_8 : decode m_N_of.2.1 8 = .ok (.getfield 13, 3) := by decide +kernel
theorem d_N_of_11 : decode m_N_of.2.1 11 = .ok (.iload_n 1, 1) := by decide +kernel
theorem d_N_of_12 : decode m_N_of.2.1 12 = .ok (.iload_n 2, 1) := by decide +kernel
theorem d_N_of_13 : decode m_N_of.2.1 13 = .ok (.invokevirtual 81, 3) := by decide +kernel
theorem d_N_of_16 : decode m_N_of.2.1 16 = .ok (.ireturn, 1) := by decide +kernel
theorem d_D_dropDrafts_0 : decode m_D_dropDrafts.2.1 0 = .ok (.aload_n 0, 1) := by decide +kernel
theorem d_D_dropDrafts_1 : decode m_D_dropDrafts.2.1 1 = .ok (.aload_n 0, 1) := by decide +kernel
theorem d_D_dropDrafts_2 : decode m_D_dropDrafts.2.1 2 = .ok (.getfield 15, 3) := by decide +kernel
theorem d_D_dropDrafts_5 : decode m_D_dropDrafts.2.1 5 = .ok (.putfield 19, 3) := by decide +kernel
theorem d_D_dropDrafts_8 : decode m_D_dropDrafts.2.1 8 = .ok (.return_, 1) := by decide +kernel
theorem d_D_cell_0 : decode m_D_cell.2.1 0 = .ok (.iload_n 1, 1) := by decide +kernel
theorem d_D_cell_1 : decode m_D_cell.2.1 1 = .ok (.ifCond .lt 21, 3) := by decide +kernel
theorem d_D_cell_4 : decode m_D_cell.2.1 4 = .ok (.iload_n 1, 1) := by decide +kernel
theorem d_D_cell_5 : decode m_D_cell.2.1 5 = .ok (.aload_n 0, 1) := by decide +kernel
theorem d_D_cell_6 : decode m_D_cell.2.1 6 = .ok (.getfield 19, 3) := by decide +kernel
theorem d_D_cell_9 : decode m_D_cell.2.1 9 = .ok (.if_icmp .ge 13, 3) := by decide +kernel
theorem d_D_cell_12 : decode m_D_cell.2.1 12 = .ok (.iload_n 2, 1) := by decide +kernel
theorem d_D_cell_13 : decode m_D_cell.2.1 13 = .ok (.ifCond .lt 9, 3) := by decide +kernel
theorem d_D_cell_16 : decode m_D_cell.2.1 16 = .ok (.iload_n 2, 1) := by decide +kernel
theorem d_D_cell_17 : decode m_D_cell.2.1 17 = .ok (.bipush 8, 2) := by decide +kernel
theorem d_D_cell_19 : decode m_D_cell.2.1 19 = .ok (.if_icmp .lt 5, 3) := by decide +kernel
theorem d_D_cell_22 : decode m_D_cell.2.1 22 = .ok (.iconst (-1), 1) := by decide +kernel
theorem d_D_cell_23 : decode m_D_cell.2.1 23 = .ok (.ireturn, 1) := by decide +kernel
theorem d_D_cell_24 : decode m_D_cell.2.1 24 = .ok (.aload_n 0, 1) := by decide +kernel
theorem d_D_cell_25 : decode m_D_cell.2.1 25 = .ok (.getfield 11, 3) := by decide +kernel
theorem d_D_cell_28 : decode m_D_cell.2.1 28 = .ok (.iload_n 1, 1) := by decide +kernel
theorem d_D_cell_29 : decode m_D_cell.2.1 29 = .ok (.bipush 8, 2) := by decide +kernel
theorem d_D_cell_31 : decode m_D_cell.2.1 31 = .ok (.imul, 1) := by decide +kernel
theorem d_D_cell_32 : decode m_D_cell.2.1 32 = .ok (.iload_n 2, 1) := by decide +kernel
theorem d_D_cell_33 : decode m_D_cell.2.1 33 = .ok (.iadd, 1) := by decide +kernel
theorem d_D_cell_34 : decode m_D_cell.2.1 34 = .ok (.iaload, 1) := by decide +kernel
theorem d_D_cell_35 : decode m_D_cell.2.1 35 = .ok (.ireturn, 1) := by decide +kernel
theorem d_N_type_0 : decode m_N_type.2.1 0 = .ok (.aload_n 0, 1) := by decide +kernel
theorem d_N_type_1 : decode m_N_type.2.1 1 = .ok (.getfield 19, 3) := by decide +kernel
theorem d_N_type_4 : decode m_N_type.2.1 4 = .ok (.invokevirtual 108, 3) := by decide +kernel
theorem d_N_type_7 : decode m_N_type.2.1 7 = .ok (.istore_n 3, 1) := by decide +kernel
theorem d_N_type_8 : decode m_N_type.2.1 8 = .ok (.bipush 56, 2) := by decide +kernel
theorem d_N_type_10 : decode m_N_type.2.1 10 = .ok (.istore 4, 2) := by decide +kernel
theorem d_N_type_12 : decode m_N_type.2.1 12 = .ok (.iload 4, 2) := by decide +kernel
theorem d_N_type_14 : decode m_N_type.2.1 14 = .ok (.ifCond .lt 55, 3) := by decide +kernel
theorem d_N_type_17 : decode m_N_type.2.1 17 = .ok (.lload_n 1, 1) := by decide +kernel
theorem d_N_type_18 : decode m_N_type.2.1 18 = .ok (.iload 4, 2) := by decide +kernel
theorem d_N_type_20 : decode m_N_type.2.1 20 = .ok (.lushr, 1) := by decide +kernel
theorem d_N_type_21 : decode m_N_type.2.1 21 = .ok (.l2i, 1) := by decide +kernel
theorem d_N_type_22 : decode m_N_type.2.1 22 = .ok (.sipush 255, 3) := by decide +kernel
theorem d_N_type_25 : decode m_N_type.2.1 25 = .ok (.iand, 1) := by decide +kernel
theorem d_N_type_26 : decode m_N_type.2.1 26 = .ok (.istore 5, 2) := by decide +kernel
theorem d_N_type_28 : decode m_N_type.2.1 28 = .ok (.iload 5, 2) := by decide +kernel
theorem d_N_type_30 : decode m_N_type.2.1 30 = .ok (.ifCond .eq 33, 3) := by decide +kernel
theorem d_N_type_33 : decode m_N_type.2.1 33 = .ok (.iload 5, 2) := by decide +kernel
theorem d_N_type_35 : decode m_N_type.2.1 35 = .ok (.invokestatic 112, 3) := by decide +kernel
theorem d_N_type_38 : decode m_N_type.2.1 38 = .ok (.ifCond .eq 15, 3) := by decide +kernel
theorem d_N_type_41 : decode m_N_type.2.1 41 = .ok (.aload_n 0, 1) := by decide +kernel
theorem d_N_type_42 : decode m_N_type.2.1 42 = .ok (.getfield 19, 3) := by decide +kernel
theorem d_N_type_45 : decode m_N_type.2.1 45 = .ok (.iload 5, 2) := by decide +kernel
theorem d_N_type_47 : decode m_N_type.2.1 47 = .ok (.invokevirtual 116, 3) := by decide +kernel
theorem d_N_type_50 : decode m_N_type.2.1 50 = .ok (.ifCond .ne 13, 3) := by decide +kernel
theorem d_N_type_53 : decode m_N_type.2.1 53 = .ok (.aload_n 0, 1) := by decide +kernel
theorem d_N_type_54 : decode m_N_type.2.1 54 = .ok (.getfield 19, 3) := by decide +kernel
theorem d_N_type_57 : decode m_N_type.2.1 57 = .ok (.iload_n 3, 1) := by decide +kernel
theorem d_N_type_58 : decode m_N_type.2.1 58 = .ok (.invokevirtual 119, 3) := by decide +kernel
theorem d_N_type_61 : decode m_N_type.2.1 61 = .ok (.iconst 0, 1) := by decide +kernel
theorem d_N_type_62 : decode m_N_type.2.1 62 = .ok (.ireturn, 1) := by decide +kernel
theorem d_N_type_63 : decode m_N_type.2.1 63 = .ok (.iinc 4 (-8), 3) := by decide +kernel
theorem d_N_type_66 : decode m_N_type.2.1 66 = .ok (.goto (-54), 3) := by decide +kernel
theorem d_N_type_69 : decode m_N_type.2.1 69 = .ok (.iconst 1, 1) := by decide +kernel
theorem d_N_type_70 : decode m_N_type.2.1 70 = .ok (.ireturn, 1) := by decide +kernel
theorem d_W_size_0 : decode m_W_size.2.1 0 = .ok (.aload_n 0, 1) := by decide +kernel
theorem d_W_size_1 : decode m_W_size.2.1 1 = .ok (.getfield 15, 3) := by decide +kernel
theorem d_W_size_4 : decode m_W_size.2.1 4 = .ok (.ireturn, 1) := by decide +kernel
theorem d_N_isTypeable_0 : decode m_N_isTypeable.2.1 0 = .ok (.iload_n 0, 1) := by decide +kernel
theorem d_N_isTypeable_1 : decode m_N_isTypeable.2.1 1 = .ok (.bipush 33, 2) := by decide +kernel
theorem d_N_isTypeable_3 : decode m_N_isTypeable.2.1 3 = .ok (.if_icmp .lt 13, 3) := by decide +kernel
theorem d_N_isTypeable_6 : decode m_N_isTypeable.2.1 6 = .ok (.iload_n 0, 1) := by decide +kernel
theorem d_N_isTypeable_7 : decode m_N_isTypeable.2.1 7 = .ok (.bipush 126, 2) := by decide +kernel
theorem d_N_isTypeable_9 : decode m_N_isTypeable.2.1 9 = .ok (.if_icmp .gt 7, 3) := by decide +kernel
theorem d_N_isTypeable_12 : decode m_N_isTypeable.2.1 12 = .ok (.iconst 1, 1) := by decide +kernel
theorem d_N_isTypeable_13 : decode m_N_isTypeable.2.1 13 = .ok (.goto 4, 3) := by decide +kernel
theorem d_N_isTypeable_16 : decode m_N_isTypeable.2.1 16 = .ok (.iconst 0, 1) := by decide +kernel
theorem d_N_isTypeable_17 : decode m_N_isTypeable.2.1 17 = .ok (.ireturn, 1) := by decide +kernel
theorem d_W_add_0 : decode m_W_add.2.1 0 = .ok (.aload_n 0, 1) := by decide +kernel
theorem d_W_add_1 : decode m_W_add.2.1 1 = .ok (.getfield 15, 3) := by decide +kernel
theorem d_W_add_4 : decode m_W_add.2.1 4 = .ok (.bipush 120, 2) := by decide +kernel
theorem d_W_add_6 : decode m_W_add.2.1 6 = .ok (.if_icmp .lt 5, 3) := by decide +kernel
theorem d_W_add_9 : decode m_W_add.2.1 9 = .ok (.iconst 0, 1) := by decide +kernel
theorem d_W_add_10 : decode m_W_add.2.1 10 = .ok (.ireturn, 1) := by decide +kernel
theorem d_W_add_11 : decode m_W_add.2.1 11 = .ok (.aload_n 0, 1) := by decide +kernel
theorem d_W_add_12 : decode m_W_add.2.1 12 = .ok (.getfield 9, 3) := by decide +kernel
theorem d_W_add_15 : decode m_W_add.2.1 15 = .ok (.aload_n 0, 1) := by decide +kernel
theorem d_W_add_16 : decode m_W_add.2.1 16 = .ok (.getfield 15, 3) := by decide +kernel
theorem d_W_add_19 : decode m_W_add.2.1 19 = .ok (.iload_n 1, 1) := by decide +kernel
theorem d_W_add_20 : decode m_W_add.2.1 20 = .ok (.iastore, 1) := by decide +kernel
theorem d_W_add_21 : decode m_W_add.2.1 21 = .ok (.aload_n 0, 1) := by decide +kernel
theorem d_W_add_22 : decode m_W_add.2.1 22 = .ok (.dup, 1) := by decide +kernel
theorem d_W_add_23 : decode m_W_add.2.1 23 = .ok (.getfield 15, 3) := by decide +kernel
theorem d_W_add_26 : decode m_W_add.2.1 26 = .ok (.iconst 1, 1) := by decide +kernel
theorem d_W_add_27 : decode m_W_add.2.1 27 = .ok (.iadd, 1) := by decide +kernel
theorem d_W_add_28 : decode m_W_add.2.1 28 = .ok (.putfield 15, 3) := by decide +kernel
theorem d_W_add_31 : decode m_W_add.2.1 31 = .ok (.iconst 1, 1) := by decide +kernel
theorem d_W_add_32 : decode m_W_add.2.1 32 = .ok (.ireturn, 1) := by decide +kernel
theorem d_W_cut_0 : decode m_W_cut.2.1 0 = .ok (.aload_n 0, 1) := by decide +kernel
theorem d_W_cut_1 : decode m_W_cut.2.1 1 = .ok (.iconst 0, 1) := by decide +kernel
theorem d_W_cut_2 : decode m_W_cut.2.1 2 = .ok (.aload_n 0, 1) := by decide +kernel
theorem d_W_cut_3 : decode m_W_cut.2.1 3 = .ok (.getfield 15, 3) := by decide +kernel
theorem d_W_cut_6 : decode m_W_cut.2.1 6 = .ok (.iload_n 1, 1) := by decide +kernel
theorem d_W_cut_7 : decode m_W_cut.2.1 7 = .ok (.invokestatic 19, 3) := by decide +kernel
theorem d_W_cut_10 : decode m_W_cut.2.1 10 = .ok (.invokestatic 25, 3) := by decide +kernel
theorem d_W_cut_13 : decode m_W_cut.2.1 13 = .ok (.putfield 15, 3) := by decide +kernel
theorem d_W_cut_16 : decode m_W_cut.2.1 16 = .ok (.return_, 1) := by decide +kernel
theorem d_N_wipe_0 : decode m_N_wipe.2.1 0 = .ok (.aload_n 0, 1) := by decide +kernel
theorem d_N_wipe_1 : decode m_N_wipe.2.1 1 = .ok (.getfield 19, 3) := by decide +kernel
theorem d_N_wipe_4 : decode m_N_wipe.2.1 4 = .ok (.iconst 0, 1) := by decide +kernel
theorem d_N_wipe_5 : decode m_N_wipe.2.1 5 = .ok (.invokevirtual 119, 3) := by decide +kernel
theorem d_N_wipe_8 : decode m_N_wipe.2.1 8 = .ok (.return_, 1) := by decide +kernel
theorem d_N_text_0 : decode m_N_text.2.1 0 = .ok (.aload_n 0, 1) := by decide +kernel
theorem d_N_text_1 : decode m_N_text.2.1 1 = .ok (.getfield 19, 3) := by decide +kernel
theorem d_N_text_4 : decode m_N_text.2.1 4 = .ok (.iload_n 1, 1) := by decide +kernel
theorem d_N_text_5 : decode m_N_text.2.1 5 = .ok (.invokevirtual 122, 3) := by decide +kernel
theorem d_N_text_8 : decode m_N_text.2.1 8 = .ok (.ireturn, 1) := by decide +kernel
theorem d_W_at_0 : decode m_W_at.2.1 0 = .ok (.iload_n 1, 1) := by decide +kernel
theorem d_W_at_1 : decode m_W_at.2.1 1 = .ok (.ifCond .lt 20, 3) := by decide +kernel
theorem d_W_at_4 : decode m_W_at.2.1 4 = .ok (.iload_n 1, 1) := by decide +kernel
theorem d_W_at_5 : decode m_W_at.2.1 5 = .ok (.aload_n 0, 1) := by decide +kernel
theorem d_W_at_6 : decode m_W_at.2.1 6 = .ok (.getfield 15, 3) := by decide +kernel
theorem d_W_at_9 : decode m_W_at.2.1 9 = .ok (.if_icmp .ge 12, 3) := by decide +kernel
theorem d_W_at_12 : decode m_W_at.2.1 12 = .ok (.aload_n 0, 1) := by decide +kernel
theorem d_W_at_13 : decode m_W_at.2.1 13 = .ok (.getfield 9, 3) := by decide +kernel
theorem d_W_at_16 : decode m_W_at.2.1 16 = .ok (.iload_n 1, 1) := by decide +kernel
theorem d_W_at_17 : decode m_W_at.2.1 17 = .ok (.iaload, 1) := by decide +kernel
theorem d_W_at_18 : decode m_W_at.2.1 18 = .ok (.goto 4, 3) := by decide +kernel
theorem d_W_at_21 : decode m_W_at.2.1 21 = .ok (.iconst (-1), 1) := by decide +kernel
theorem d_W_at_22 : decode m_W_at.2.1 22 = .ok (.ireturn, 1) := by decide +kernel
theorem d_N_table_0 : decode m_N_table.2.1 0 = .ok (.aload_n 0, 1) := by decide +kernel
theorem d_N_table_1 : decode m_N_table.2.1 1 = .ok (.getfield 23, 3) := by decide +kernel
theorem d_N_table_4 : decode m_N_table.2.1 4 = .ok (.iload_n 1, 1) := by decide +kernel
theorem d_N_table_5 : decode m_N_table.2.1 5 = .ok (.invokevirtual 122, 3) := by decide +kernel
theorem d_N_table_8 : decode m_N_table.2.1 8 = .ok (.ireturn, 1) := by decide +kernel
theorem d_N_look_0 : decode m_N_look.2.1 0 = .ok (.iload_n 1, 1) := by decide +kernel
theorem d_N_look_1 : decode m_N_look.2.1 1 = .ok (.tableswitch 51 0 2 #[27, 35, 43], 27) := by decide +kernel
theorem d_N_look_28 : decode m_N_look.2.1 28 = .ok (.aload_n 0, 1) := by decide +kernel
theorem d_N_look_29 : decode m_N_look.2.1 29 = .ok (.getfield 13, 3) := by decide +kernel
theorem d_N_look_32 : decode m_N_look.2.1 32 = .ok (.invokevirtual 129, 3) := by decide +kernel
theorem d_N_look_35 : decode m_N_look.2.1 35 = .ok (.ireturn, 1) := by decide +kernel
theorem d_N_look_36 : decode m_N_look.2.1 36 = .ok (.aload_n 0, 1) := by decide +kernel
theorem d_N_look_37 : decode m_N_look.2.1 37 = .ok (.getfield 19, 3) := by decide +kernel
theorem d_N_look_40 : decode m_N_look.2.1 40 = .ok (.invokevirtual 108, 3) := by decide +kernel
theorem d_N_look_43 : decode m_N_look.2.1 43 = .ok (.ireturn, 1) := by decide +kernel
theorem d_N_look_44 : decode m_N_look.2.1 44 = .ok (.aload_n 0, 1) := by decide +kernel
theorem d_N_look_45 : decode m_N_look.2.1 45 = .ok (.getfield 23, 3) := by decide +kernel
theorem d_N_look_48 : decode m_N_look.2.1 48 = .ok (.invokevirtual 108, 3) := by decide +kernel
theorem d_N_look_51 : decode m_N_look.2.1 51 = .ok (.ireturn, 1) := by decide +kernel
theorem d_N_look_52 : decode m_N_look.2.1 52 = .ok (.iconst (-1), 1) := by decide +kernel
theorem d_N_look_53 : decode m_N_look.2.1 53 = .ok (.ireturn, 1) := by decide +kernel
theorem d_D_kept_0 : decode m_D_kept.2.1 0 = .ok (.aload_n 0, 1) := by decide +kernel
theorem d_D_kept_1 : decode m_D_kept.2.1 1 = .ok (.getfield 15, 3) := by decide +kernel
theorem d_D_kept_4 : decode m_D_kept.2.1 4 = .ok (.ireturn, 1) := by decide +kernel
theorem d_L_builtin_0 : decode m_L_builtin.2.1 0 = .ok (.aload_n 2, 1) := by decide +kernel
theorem d_L_builtin_1 : decode m_L_builtin.2.1 1 = .ok (.iconst 0, 1) := by decide +kernel
theorem d_L_builtin_2 : decode m_L_builtin.2.1 2 = .ok (.aload_n 0, 1) := by decide +kernel
theorem d_L_builtin_3 : decode m_L_builtin.2.1 3 = .ok (.iload_n 1, 1) := by decide +kernel
theorem d_L_builtin_4 : decode m_L_builtin.2.1 4 = .ok (.invokevirtual 7, 3) := by decide +kernel
theorem d_L_builtin_7 : decode m_L_builtin.2.1 7 = .ok (.i2l, 1) := by decide +kernel
theorem d_L_builtin_8 : decode m_L_builtin.2.1 8 = .ok (.lastore, 1) := by decide +kernel
theorem d_L_builtin_9 : decode m_L_builtin.2.1 9 = .ok (.goto 9, 3) := by decide +kernel
theorem d_L_builtin_12 : decode m_L_builtin.2.1 12 = .ok (.astore_n 3, 1) := by decide +kernel
theorem d_L_builtin_13 : decode m_L_builtin.2.1 13 = .ok (.iconst 1, 1) := by decide +kernel
theorem d_L_builtin_14 : decode m_L_builtin.2.1 14 = .ok (.ireturn, 1) := by decide +kernel
theorem d_L_builtin_15 : decode m_L_builtin.2.1 15 = .ok (.astore_n 3, 1) := by decide +kernel
theorem d_L_builtin_16 : decode m_L_builtin.2.1 16 = .ok (.iconst 2, 1) := by decide +kernel
theorem d_L_builtin_17 : decode m_L_builtin.2.1 17 = .ok (.ireturn, 1) := by decide +kernel
theorem d_L_builtin_18 : decode m_L_builtin.2.1 18 = .ok (.iconst 0, 1) := by decide +kernel
theorem d_L_builtin_19 : decode m_L_builtin.2.1 19 = .ok (.ireturn, 1) := by decide +kernel
theorem d_N_builtin_0 : decode m_N_builtin.2.1 0 = .ok (.aload_n 0, 1) := by decide +kernel
theorem d_N_builtin_1 : decode m_N_builtin.2.1 1 = .ok (.getfield 13, 3) := by decide +kernel
theorem d_N_builtin_4 : decode m_N_builtin.2.1 4 = .ok (.invokevirtual 44, 3) := by decide +kernel
theorem d_N_builtin_7 : decode m_N_builtin.2.1 7 = .ok (.aload_n 0, 1) := by decide +kernel
theorem d_N_builtin_8 : decode m_N_builtin.2.1 8 = .ok (.getfield 13, 3) := by decide +kernel
theorem d_N_builtin_11 : decode m_N_builtin.2.1 11 = .ok (.aload_n 0, 1) := by decide +kernel
theorem d_N_builtin_12 : decode m_N_builtin.2.1 12 = .ok (.getfield 13, 3) := by decide +kernel
theorem d_N_builtin_15 : decode m_N_builtin.2.1 15 = .ok (.iload_n 1, 1) := by decide +kernel
theorem d_N_builtin_16 : decode m_N_builtin.2.1 16 = .ok (.invokevirtual 47, 3) := by decide +kernel
theorem d_N_builtin_19 : decode m_N_builtin.2.1 19 = .ok (.invokevirtual 51, 3) := by decide +kernel
theorem d_N_builtin_22 : decode m_N_builtin.2.1 22 = .ok (.ireturn, 1) := by decide +kernel
theorem d_D_addBuiltin_0 : decode m_D_addBuiltin.2.1 0 = .ok (.iload_n 1, 1) := by decide +kernel
theorem d_D_addBuiltin_1 : decode m_D_addBuiltin.2.1 1 = .ok (.ifCond .lt 12, 3) := by decide +kernel
theorem d_D_addBuiltin_4 : decode m_D_addBuiltin.2.1 4 = .ok (.iload_n 1, 1) := by decide +kernel
theorem d_D_addBuiltin_5 : decode m_D_addBuiltin.2.1 5 = .ok (.ldc 29, 2) := by decide +kernel
theorem d_D_addBuiltin_7 : decode m_D_addBuiltin.2.1 7 = .ok (.invokevirtual 31, 3) := by decide +kernel
theorem d_D_addBuiltin_10 : decode m_D_addBuiltin.2.1 10 = .ok (.if_icmp .lt 13, 3) := by decide +kernel
theorem d_D_addBuiltin_13 : decode m_D_addBuiltin.2.1 13 = .ok (.new 37, 3) := by decide +kernel
theorem d_D_addBuiltin_16 : decode m_D_addBuiltin.2.1 16 = .ok (.dup, 1) := by decide +kernel
theorem d_D_addBuiltin_17 : decode m_D_addBuiltin.2.1 17 = .ok (.ldc 39, 2) := by decide +kernel
theorem d_D_addBuiltin_19 : decode m_D_addBuiltin.2.1 19 = .ok (.invokespecial 41, 3) := by decide +kernel
theorem d_D_addBuiltin_22 : decode m_D_addBuiltin.2.1 22 = .ok (.athrow, 1) := by decide +kernel
theorem d_D_addBuiltin_23 : decode m_D_addBuiltin.2.1 23 = .ok (.aload_n 0, 1) := by decide +kernel
theorem d_D_addBuiltin_24 : decode m_D_addBuiltin.2.1 24 = .ok (.iconst 0, 1) := by decide +kernel
theorem d_D_addBuiltin_25 : decode m_D_addBuiltin.2.1 25 = .ok (.iload_n 1, 1) := by decide +kernel
theorem d_D_addBuiltin_26 : decode m_D_addBuiltin.2.1 26 = .ok (.iconst (-1), 1) := by decide +kernel
theorem d_D_addBuiltin_27 : decode m_D_addBuiltin.2.1 27 = .ok (.iconst (-1), 1) := by decide +kernel
theorem d_D_addBuiltin_28 : decode m_D_addBuiltin.2.1 28 = .ok (.iconst (-1), 1) := by decide +kernel
theorem d_D_addBuiltin_29 : decode m_D_addBuiltin.2.1 29 = .ok (.iconst (-1), 1) := by decide +kernel
theorem d_D_addBuiltin_30 : decode m_D_addBuiltin.2.1 30 = .ok (.iconst (-1), 1) := by decide +kernel
theorem d_D_addBuiltin_31 : decode m_D_addBuiltin.2.1 31 = .ok (.invokevirtual 42, 3) := by decide +kernel
theorem d_D_addBuiltin_34 : decode m_D_addBuiltin.2.1 34 = .ok (.ireturn, 1) := by decide +kernel
theorem d_D_add_0 : decode m_D_add.2.1 0 = .ok (.aload_n 0, 1) := by decide +kernel
theorem d_D_add_1 : decode m_D_add.2.1 1 = .ok (.iload_n 3, 1) := by decide +kernel
theorem d_D_add_2 : decode m_D_add.2.1 2 = .ok (.invokevirtual 111, 3) := by decide +kernel
theorem d_D_add_5 : decode m_D_add.2.1 5 = .ok (.aload_n 0, 1) := by decide +kernel
theorem d_D_add_6 : decode m_D_add.2.1 6 = .ok (.iload 4, 2) := by decide +kernel
theorem d_D_add_8 : decode m_D_add.2.1 8 = .ok (.invokevirtual 111, 3) := by decide +kernel
theorem d_D_add_11 : decode m_D_add.2.1 11 = .ok (.invokestatic 114, 3) := by decide +kernel
theorem d_D_add_14 : decode m_D_add.2.1 14 = .ok (.istore 8, 2) := by decide +kernel
theorem d_D_add_16 : decode m_D_add.2.1 16 = .ok (.iload 8, 2) := by decide +kernel
theorem d_D_add_18 : decode m_D_add.2.1 18 = .ok (.aload_n 0, 1) := by decide +kernel
theorem d_D_add_19 : decode m_D_add.2.1 19 = .ok (.iload 5, 2) := by decide +kernel
theorem d_D_add_21 : decode m_D_add.2.1 21 = .ok (.invokevirtual 111, 3) := by decide +kernel
theorem d_D_add_24 : decode m_D_add.2.1 24 = .ok (.aload_n 0, 1) := by decide +kernel
theorem d_D_add_25 : decode m_D_add.2.1 25 = .ok (.iload 6, 2) := by decide +kernel
theorem d_D_add_27 : decode m_D_add.2.1 27 = .ok (.invokevirtual 111, 3) := by decide +kernel
theorem d_D_add_30 : decode m_D_add.2.1 30 = .ok (.aload_n 0, 1) := by decide +kernel
theorem d_D_add_31 : decode m_D_add.2.1 31 = .ok (.iload 7, 2) := by decide +kernel
theorem d_D_add_33 : decode m_D_add.2.1 33 = .ok (.invokevirtual 111, 3) := by decide +kernel
theorem d_D_add_36 : decode m_D_add.2.1 36 = .ok (.invokestatic 114, 3) := by decide +kernel
theorem d_D_add_39 : decode m_D_add.2.1 39 = .ok (.invokestatic 114, 3) := by decide +kernel
theorem d_D_add_42 : decode m_D_add.2.1 42 = .ok (.invokestatic 114, 3) := by decide +kernel
theorem d_D_add_45 : decode m_D_add.2.1 45 = .ok (.istore 8, 2) := by decide +kernel
theorem d_D_add_47 : decode m_D_add.2.1 47 = .ok (.iload 8, 2) := by decide +kernel
theorem d_D_add_49 : decode m_D_add.2.1 49 = .ok (.bipush 16, 2) := by decide +kernel
theorem d_D_add_51 : decode m_D_add.2.1 51 = .ok (.if_icmp .lt 13, 3) := by decide +kernel
theorem d_D_add_54 : decode m_D_add.2.1 54 = .ok (.new 37, 3) := by decide +kernel
theorem d_D_add_57 : decode m_D_add.2.1 57 = .ok (.dup, 1) := by decide +kernel
theorem d_D_add_58 : decode m_D_add.2.1 58 = .ok (.ldc 119, 2) := by decide +kernel
theorem d_D_add_60 : decode m_D_add.2.1 60 = .ok (.invokespecial 41, 3) := by decide +kernel
theorem d_D_add_63 : decode m_D_add.2.1 63 = .ok (.athrow, 1) := by decide +kernel
theorem d_D_add_64 : decode m_D_add.2.1 64 = .ok (.aload_n 0, 1) := by decide +kernel
theorem d_D_add_65 : decode m_D_add.2.1 65 = .ok (.getfield 19, 3) := by decide +kernel
theorem d_D_add_68 : decode m_D_add.2.1 68 = .ok (.sipush 180, 3) := by decide +kernel
theorem d_D_add_71 : decode m_D_add.2.1 71 = .ok (.if_icmp .lt 13, 3) := by decide +kernel
theorem d_D_add_74 : decode m_D_add.2.1 74 = .ok (.new 22, 3) := by decide +kernel
theorem d_D_add_77 : decode m_D_add.2.1 77 = .ok (.dup, 1) := by decide +kernel
theorem d_D_add_78 : decode m_D_add.2.1 78 = .ok (.ldc 121, 2) := by decide +kernel
theorem d_D_add_80 : decode m_D_add.2.1 80 = .ok (.invokespecial 26, 3) := by decide +kernel
theorem d_D_add_83 : decode m_D_add.2.1 83 = .ok (.athrow, 1) := by decide +kernel
theorem d_D_add_84 : decode m_D_add.2.1 84 = .ok (.aload_n 0, 1) := by decide +kernel
theorem d_D_add_85 : decode m_D_add.2.1 85 = .ok (.getfield 19, 3) := by decide +kernel
theorem d_D_add_88 : decode m_D_add.2.1 88 = .ok (.bipush 8, 2) := by decide +kernel
theorem d_D_add_90 : decode m_D_add.2.1 90 = .ok (.imul, 1) := by decide +kernel
theorem d_D_add_91 : decode m_D_add.2.1 91 = .ok (.istore 9, 2) := by decide +kernel
theorem d_D_add_93 : decode m_D_add.2.1 93 = .ok (.aload_n 0, 1) := by decide +kernel
theorem d_D_add_94 : decode m_D_add.2.1 94 = .ok (.getfield 11, 3) := by decide +kernel
theorem d_D_add_97 : decode m_D_add.2.1 97 = .ok (.iload 9, 2) := by decide +kernel
theorem d_D_add_99 : decode m_D_add.2.1 99 = .ok (.iconst 0, 1) := by decide +kernel
theorem d_D_add_100 : decode m_D_add.2.1 100 = .ok (.iadd, 1) := by decide +kernel
theorem d_D_add_101 : decode m_D_add.2.1 101 = .ok (.iload_n 1, 1) := by decide +kernel
theorem d_D_add_102 : decode m_D_add.2.1 102 = .ok (.iastore, 1) := by decide +kernel
theorem d_D_add_103 : decode m_D_add.2.1 103 = .ok (.aload_n 0, 1) := by decide +kernel
theorem d_D_add_104 : decode m_D_add.2.1 104 = .ok (.getfield 11, 3) := by decide +kernel
theorem d_D_add_107 : decode m_D_add.2.1 107 = .ok (.iload 9, 2) := by decide +kernel
theorem d_D_add_109 : decode m_D_add.2.1 109 = .ok (.iconst 1, 1) := by decide +kernel
theorem d_D_add_110 : decode m_D_add.2.1 110 = .ok (.iadd, 1) := by decide +kernel
theorem d_D_add_111 : decode m_D_add.2.1 111 = .ok (.iload_n 2, 1) := by decide +kernel
theorem d_D_add_112 : decode m_D_add.2.1 112 = .ok (.iastore, 1) := by decide +kernel
theorem d_D_add_113 : decode m_D_add.2.1 113 = .ok (.aload_n 0, 1) := by decide +kernel
theorem d_D_add_114 : decode m_D_add.2.1 114 = .ok (.getfield 11, 3) := by decide +kernel
theorem d_D_add_117 : decode m_D_add.2.1 117 = .ok (.iload 9, 2) := by decide +kernel
theorem d_D_add_119 : decode m_D_add.2.1 119 = .ok (.iconst 2, 1) := by decide +kernel
theorem d_D_add_120 : decode m_D_add.2.1 120 = .ok (.iadd, 1) := by decide +kernel
theorem d_D_add_121 : decode m_D_add.2.1 121 = .ok (.iload_n 3, 1) := by decide +kernel
theorem d_D_add_122 : decode m_D_add.2.1 122 = .ok (.iastore, 1) := by decide +kernel
theorem d_D_add_123 : decode m_D_add.2.1 123 = .ok (.aload_n 0, 1) := by decide +kernel
theorem d_D_add_124 : decode m_D_add.2.1 124 = .ok (.getfield 11, 3) := by decide +kernel
theorem d_D_add_127 : decode m_D_add.2.1 127 = .ok (.iload 9, 2) := by decide +kernel
theorem d_D_add_129 : decode m_D_add.2.1 129 = .ok (.iconst 3, 1) := by decide +kernel
theorem d_D_add_130 : decode m_D_add.2.1 130 = .ok (.iadd, 1) := by decide +kernel
theorem d_D_add_131 : decode m_D_add.2.1 131 = .ok (.iload 4, 2) := by decide +kernel
theorem d_D_add_133 : decode m_D_add.2.1 133 = .ok (.iastore, 1) := by decide +kernel
theorem d_D_add_134 : decode m_D_add.2.1 134 = .ok (.aload_n 0, 1) := by decide +kernel
theorem d_D_add_135 : decode m_D_add.2.1 135 = .ok (.getfield 11, 3) := by decide +kernel
theorem d_D_add_138 : decode m_D_add.2.1 138 = .ok (.iload 9, 2) := by decide +kernel
theorem d_D_add_140 : decode m_D_add.2.1 140 = .ok (.iconst 4, 1) := by decide +kernel
theorem d_D_add_141 : decode m_D_add.2.1 141 = .ok (.iadd, 1) := by decide +kernel
theorem d_D_add_142 : decode m_D_add.2.1 142 = .ok (.iload 5, 2) := by decide +kernel
theorem d_D_add_144 : decode m_D_add.2.1 144 = .ok (.iastore, 1) := by decide +kernel
theorem d_D_add_145 : decode m_D_add.2.1 145 = .ok (.aload_n 0, 1) := by decide +kernel
theorem d_D_add_146 : decode m_D_add.2.1 146 = .ok (.getfield 11, 3) := by decide +kernel
theorem d_D_add_149 : decode m_D_add.2.1 149 = .ok (.iload 9, 2) := by decide +kernel
theorem d_D_add_151 : decode m_D_add.2.1 151 = .ok (.iconst 5, 1) := by decide +kernel
theorem d_D_add_152 : decode m_D_add.2.1 152 = .ok (.iadd, 1) := by decide +kernel
theorem d_D_add_153 : decode m_D_add.2.1 153 = .ok (.iload 6, 2) := by decide +kernel
theorem d_D_add_155 : decode m_D_add.2.1 155 = .ok (.iastore, 1) := by decide +kernel
theorem d_D_add_156 : decode m_D_add.2.1 156 = .ok (.aload_n 0, 1) := by decide +kernel
theorem d_D_add_157 : decode m_D_add.2.1 157 = .ok (.getfield 11, 3) := by decide +kernel
theorem d_D_add_160 : decode m_D_add.2.1 160 = .ok (.iload 9, 2) := by decide +kernel
theorem d_D_add_162 : decode m_D_add.2.1 162 = .ok (.bipush 6, 2) := by decide +kernel
theorem d_D_add_164 : decode m_D_add.2.1 164 = .ok (.iadd, 1) := by decide +kernel
theorem d_D_add_165 : decode m_D_add.2.1 165 = .ok (.iload 7, 2) := by decide +kernel
theorem d_D_add_167 : decode m_D_add.2.1 167 = .ok (.iastore, 1) := by decide +kernel
theorem d_D_add_168 : decode m_D_add.2.1 168 = .ok (.aload_n 0, 1) := by decide +kernel
theorem d_D_add_169 : decode m_D_add.2.1 169 = .ok (.getfield 11, 3) := by decide +kernel
theorem d_D_add_172 : decode m_D_add.2.1 172 = .ok (.iload 9, 2) := by decide +kernel
theorem d_D_add_174 : decode m_D_add.2.1 174 = .ok (.bipush 7, 2) := by decide +kernel
theorem d_D_add_176 : decode m_D_add.2.1 176 = .ok (.iadd, 1) := by decide +kernel
theorem d_D_add_177 : decode m_D_add.2.1 177 = .ok (.iload 8, 2) := by decide +kernel
theorem d_D_add_179 : decode m_D_add.2.1 179 = .ok (.iconst 1, 1) := by decide +kernel
theorem d_D_add_180 : decode m_D_add.2.1 180 = .ok (.iadd, 1) := by decide +kernel
theorem d_D_add_181 : decode m_D_add.2.1 181 = .ok (.iastore, 1) := by decide +kernel
theorem d_D_add_182 : decode m_D_add.2.1 182 = .ok (.iconst 0, 1) := by decide +kernel
theorem d_D_add_183 : decode m_D_add.2.1 183 = .ok (.istore 10, 2) := by decide +kernel
theorem d_D_add_185 : decode m_D_add.2.1 185 = .ok (.iload 10, 2) := by decide +kernel
theorem d_D_add_187 : decode m_D_add.2.1 187 = .ok (.aload_n 0, 1) := by decide +kernel
theorem d_D_add_188 : decode m_D_add.2.1 188 = .ok (.getfield 19, 3) := by decide +kernel
theorem d_D_add_191 : decode m_D_add.2.1 191 = .ok (.if_icmp .ge 26, 3) := by decide +kernel
theorem d_D_add_194 : decode m_D_add.2.1 194 = .ok (.aload_n 0, 1) := by decide +kernel
theorem d_D_add_195 : decode m_D_add.2.1 195 = .ok (.iload 10, 2) := by decide +kernel
theorem d_D_add_197 : decode m_D_add.2.1 197 = .ok (.bipush 8, 2) := by decide +kernel
theorem d_D_add_199 : decode m_D_add.2.1 199 = .ok (.imul, 1) := by decide +kernel
theorem d_D_add_200 : decode m_D_add.2.1 200 = .ok (.iload 9, 2) := by decide +kernel
theorem d_D_add_202 : decode m_D_add.2.1 202 = .ok (.invokevirtual 123, 3) := by decide +kernel
theorem d_D_add_205 : decode m_D_add.2.1 205 = .ok (.ifCond .eq 6, 3) := by decide +kernel
theorem d_D_add_208 : decode m_D_add.2.1 208 = .ok (.iload 10, 2) := by decide +kernel
theorem d_D_add_210 : decode m_D_add.2.1 210 = .ok (.ireturn, 1) := by decide +kernel
theorem d_D_add_211 : decode m_D_add.2.1 211 = .ok (.iinc 10 1, 3) := by decide +kernel
theorem d_D_add_214 : decode m_D_add.2.1 214 = .ok (.goto (-29), 3) := by decide +kernel
theorem d_D_add_217 : decode m_D_add.2.1 217 = .ok (.aload_n 0, 1) := by decide +kernel
theorem d_D_add_218 : decode m_D_add.2.1 218 = .ok (.dup, 1) := by decide +kernel
theorem d_D_add_219 : decode m_D_add.2.1 219 = .ok (.getfield 19, 3) := by decide +kernel
theorem d_D_add_222 : decode m_D_add.2.1 222 = .ok (.iconst 1, 1) := by decide +kernel
theorem d_D_add_223 : decode m_D_add.2.1 223 = .ok (.iadd, 1) := by decide +kernel
theorem d_D_add_224 : decode m_D_add.2.1 224 = .ok (.putfield 19, 3) := by decide +kernel
theorem d_D_add_227 : decode m_D_add.2.1 227 = .ok (.aload_n 0, 1) := by decide +kernel
theorem d_D_add_228 : decode m_D_add.2.1 228 = .ok (.getfield 19, 3) := by decide +kernel
theorem d_D_add_231 : decode m_D_add.2.1 231 = .ok (.iconst 1, 1) := by decide +kernel
theorem d_D_add_232 : decode m_D_add.2.1 232 = .ok (.isub, 1) := by decide +kernel
theorem d_D_add_233 : decode m_D_add.2.1 233 = .ok (.ireturn, 1) := by decide +kernel
theorem d_D_depthOf_0 : decode m_D_depthOf.2.1 0 = .ok (.iconst 0, 1) := by decide +kernel
theorem d_D_depthOf_1 : decode m_D_depthOf.2.1 1 = .ok (.aload_n 0, 1) := by decide +kernel
theorem d_D_depthOf_2 : decode m_D_depthOf.2.1 2 = .ok (.iload_n 1, 1) := by decide +kernel
theorem d_D_depthOf_3 : decode m_D_depthOf.2.1 3 = .ok (.bipush 7, 2) := by decide +kernel
theorem d_D_depthOf_5 : decode m_D_depthOf.2.1 5 = .ok (.invokevirtual 82, 3) := by decide +kernel
theorem d_D_depthOf_8 : decode m_D_depthOf.2.1 8 = .ok (.invokestatic 114, 3) := by decide +kernel
theorem d_D_depthOf_11 : decode m_D_depthOf.2.1 11 = .ok (.ireturn, 1) := by decide +kernel
theorem d_D_areAlike_0 : decode m_D_areAlike.2.1 0 = .ok (.iconst 0, 1) := by decide +kernel
theorem d_D_areAlike_1 : decode m_D_areAlike.2.1 1 = .ok (.istore_n 3, 1) := by decide +kernel
theorem d_D_areAlike_2 : decode m_D_areAlike.2.1 2 = .ok (.iload_n 3, 1) := by decide +kernel
theorem d_D_areAlike_3 : decode m_D_areAlike.2.1 3 = .ok (.bipush 8, 2) := by decide +kernel
theorem d_D_areAlike_5 : decode m_D_areAlike.2.1 5 = .ok (.if_icmp .ge 30, 3) := by decide +kernel
theorem d_D_areAlike_8 : decode m_D_areAlike.2.1 8 = .ok (.aload_n 0, 1) := by decide +kernel
theorem d_D_areAlike_9 : decode m_D_areAlike.2.1 9 = .ok (.getfield 11, 3) := by decide +kernel
theorem d_D_areAlike_12 : decode m_D_areAlike.2.1 12 = .ok (.iload_n 1, 1) := by decide +kernel
theorem d_D_areAlike_13 : decode m_D_areAlike.2.1 13 = .ok (.iload_n 3, 1) := by decide +kernel
theorem d_D_areAlike_14 : decode m_D_areAlike.2.1 14 = .ok (.iadd, 1) := by decide +kernel
theorem d_D_areAlike_15 : decode m_D_areAlike.2.1 15 = .ok (.iaload, 1) := by decide +kernel
theorem d_D_areAlike_16 : decode m_D_areAlike.2.1 16 = .ok (.aload_n 0, 1) := by decide +kernel
theorem d_D_areAlike_17 : decode m_D_areAlike.2.1 17 = .ok (.getfield 11, 3) := by decide +kernel
theorem d_D_areAlike_20 : decode m_D_areAlike.2.1 20 = .ok (.iload_n 2, 1) := by decide +kernel
theorem d_D_areAlike_21 : decode m_D_areAlike.2.1 21 = .ok (.iload_n 3, 1) := by decide +kernel
theorem d_D_areAlike_22 : decode m_D_areAlike.2.1 22 = .ok (.iadd, 1) := by decide +kernel
theorem d_D_areAlike_23 : decode m_D_areAlike.2.1 23 = .ok (.iaload, 1) := by decide +kernel
theorem d_D_areAlike_24 : decode m_D_areAlike.2.1 24 = .ok (.if_icmp .eq 5, 3) := by decide +kernel
theorem d_D_areAlike_27 : decode m_D_areAlike.2.1 27 = .ok (.iconst 0, 1) := by decide +kernel
theorem d_D_areAlike_28 : decode m_D_areAlike.2.1 28 = .ok (.ireturn, 1) := by decide +kernel
theorem d_D_areAlike_29 : decode m_D_areAlike.2.1 29 = .ok (.iinc 3 1, 3) := by decide +kernel
theorem d_D_areAlike_32 : decode m_D_areAlike.2.1 32 = .ok (.goto (-30), 3) := by decide +kernel
theorem d_D_areAlike_35 : decode m_D_areAlike.2.1 35 = .ok (.iconst 1, 1) := by decide +kernel
theorem d_D_areAlike_36 : decode m_D_areAlike.2.1 36 = .ok (.ireturn, 1) := by decide +kernel
theorem d_D_keepDrafts_0 : decode m_D_keepDrafts.2.1 0 = .ok (.aload_n 0, 1) := by decide +kernel
theorem d_D_keepDrafts_1 : decode m_D_keepDrafts.2.1 1 = .ok (.getfield 19, 3) := by decide +kernel
theorem d_D_keepDrafts_4 : decode m_D_keepDrafts.2.1 4 = .ok (.bipush 60, 2) := by decide +kernel
theorem d_D_keepDrafts_6 : decode m_D_keepDrafts.2.1 6 = .ok (.if_icmp .le 13, 3) := by decide +kernel
theorem d_D_keepDrafts_9 : decode m_D_keepDrafts.2.1 9 = .ok (.new 22, 3) := by decide +kernel
theorem d_D_keepDrafts_12 : decode m_D_keepDrafts.2.1 12 = .ok (.dup, 1) := by decide +kernel
theorem d_D_keepDrafts_13 : decode m_D_keepDrafts.2.1 13 = .ok (.ldc 24, 2) := by decide +kernel
theorem d_D_keepDrafts_15 : decode m_D_keepDrafts.2.1 15 = .ok (.invokespecial 26, 3) := by decide +kernel
theorem d_D_keepDrafts_18 : decode m_D_keepDrafts.2.1 18 = .ok (.athrow, 1) := by decide +kernel
theorem d_D_keepDrafts_19 : decode m_D_keepDrafts.2.1 19 = .ok (.aload_n 0, 1) := by decide +kernel
theorem d_D_keepDrafts_20 : decode m_D_keepDrafts.2.1 20 = .ok (.aload_n 0, 1) := by decide +kernel
theorem d_D_keepDrafts_21 : decode m_D_keepDrafts.2.1 21 = .ok (.getfield 19, 3) := by decide +kernel
theorem d_D_keepDrafts_24 : decode m_D_keepDrafts.2.1 24 = .ok (.putfield 15, 3) := by decide +kernel
theorem d_D_keepDrafts_27 : decode m_D_keepDrafts.2.1 27 = .ok (.iload_n 1, 1) := by decide +kernel
theorem d_D_keepDrafts_28 : decode m_D_keepDrafts.2.1 28 = .ok (.ireturn, 1) := by decide +kernel
theorem d_L_name_0 : decode m_L_name.2.1 0 = .ok (.aload_n 2, 1) := by decide +kernel
theorem d_L_name_1 : decode m_L_name.2.1 1 = .ok (.iconst 0, 1) := by decide +kernel
theorem d_L_name_2 : decode m_L_name.2.1 2 = .ok (.aload_n 0, 1) := by decide +kernel
theorem d_L_name_3 : decode m_L_name.2.1 3 = .ok (.iload_n 1, 1) := by decide +kernel
theorem d_L_name_4 : decode m_L_name.2.1 4 = .ok (.invokevirtual 17, 3) := by decide +kernel
theorem d_L_name_7 : decode m_L_name.2.1 7 = .ok (.i2l, 1) := by decide +kernel
theorem d_L_name_8 : decode m_L_name.2.1 8 = .ok (.lastore, 1) := by decide +kernel
theorem d_L_name_9 : decode m_L_name.2.1 9 = .ok (.goto 9, 3) := by decide +kernel
theorem d_L_name_12 : decode m_L_name.2.1 12 = .ok (.astore_n 3, 1) := by decide +kernel
theorem d_L_name_13 : decode m_L_name.2.1 13 = .ok (.iconst 1, 1) := by decide +kernel
theorem d_L_name_14 : decode m_L_name.2.1 14 = .ok (.ireturn, 1) := by decide +kernel
theorem d_L_name_15 : decode m_L_name.2.1 15 = .ok (.astore_n 3, 1) := by decide +kernel
theorem d_L_name_16 : decode m_L_name.2.1 16 = .ok (.iconst 2, 1) := by decide +kernel
theorem d_L_name_17 : decode m_L_name.2.1 17 = .ok (.ireturn, 1) := by decide +kernel
theorem d_L_name_18 : decode m_L_name.2.1 18 = .ok (.iconst 0, 1) := by decide +kernel
theorem d_L_name_19 : decode m_L_name.2.1 19 = .ok (.ireturn, 1) := by decide +kernel
theorem d_N_name_0 : decode m_N_name.2.1 0 = .ok (.aload_n 0, 1) := by decide +kernel
theorem d_N_name_1 : decode m_N_name.2.1 1 = .ok (.getfield 13, 3) := by decide +kernel
theorem d_N_name_4 : decode m_N_name.2.1 4 = .ok (.invokevirtual 44, 3) := by decide +kernel
theorem d_N_name_7 : decode m_N_name.2.1 7 = .ok (.aload_n 0, 1) := by decide +kernel
theorem d_N_name_8 : decode m_N_name.2.1 8 = .ok (.getfield 13, 3) := by decide +kernel
theorem d_N_name_11 : decode m_N_name.2.1 11 = .ok (.aload_n 0, 1) := by decide +kernel
theorem d_N_name_12 : decode m_N_name.2.1 12 = .ok (.getfield 13, 3) := by decide +kernel
theorem d_N_name_15 : decode m_N_name.2.1 15 = .ok (.iload_n 1, 1) := by decide +kernel
theorem d_N_name_16 : decode m_N_name.2.1 16 = .ok (.invokevirtual 54, 3) := by decide +kernel
theorem d_N_name_19 : decode m_N_name.2.1 19 = .ok (.invokevirtual 51, 3) := by decide +kernel
theorem d_N_name_22 : decode m_N_name.2.1 22 = .ok (.ireturn, 1) := by decide +kernel
theorem d_D_addName_0 : decode m_D_addName.2.1 0 = .ok (.iload_n 1, 1) := by decide +kernel
theorem d_D_addName_1 : decode m_D_addName.2.1 1 = .ok (.invokestatic 46, 3) := by decide +kernel
theorem d_D_addName_4 : decode m_D_addName.2.1 4 = .ok (.aload_n 0, 1) := by decide +kernel
theorem d_D_addName_5 : decode m_D_addName.2.1 5 = .ok (.iconst 1, 1) := by decide +kernel
theorem d_D_addName_6 : decode m_D_addName.2.1 6 = .ok (.iload_n 1, 1) := by decide +kernel
theorem d_D_addName_7 : decode m_D_addName.2.1 7 = .ok (.iconst (-1), 1) := by decide +kernel
theorem d_D_addName_8 : decode m_D_addName.2.1 8 = .ok (.iconst (-1), 1) := by decide +kernel
theorem d_D_addName_9 : decode m_D_addName.2.1 9 = .ok (.iconst (-1), 1) := by decide +kernel
theorem d_D_addName_10 : decode m_D_addName.2.1 10 = .ok (.iconst (-1), 1) := by decide +kernel
theorem d_D_addName_11 : decode m_D_addName.2.1 11 = .ok (.iconst (-1), 1) := by decide +kernel
theorem d_D_addName_12 : decode m_D_addName.2.1 12 = .ok (.invokevirtual 42, 3) := by decide +kernel
theorem d_D_addName_15 : decode m_D_addName.2.1 15 = .ok (.ireturn, 1) := by decide +kernel
theorem d_D_needId_0 : decode m_D_needId.2.1 0 = .ok (.iload_n 0, 1) := by decide +kernel
theorem d_D_needId_1 : decode m_D_needId.2.1 1 = .ok (.invokestatic 94, 3) := by decide +kernel
theorem d_D_needId_4 : decode m_D_needId.2.1 4 = .ok (.ifCond .ne 13, 3) := by decide +kernel
theorem d_D_needId_7 : decode m_D_needId.2.1 7 = .ok (.new 37, 3) := by decide +kernel
theorem d_D_needId_10 : decode m_D_needId.2.1 10 = .ok (.dup, 1) := by decide +kernel
theorem d_D_needId_11 : decode m_D_needId.2.1 11 = .ok (.ldc 97, 2) := by decide +kernel
theorem d_D_needId_13 : decode m_D_needId.2.1 13 = .ok (.invokespecial 41, 3) := by decide +kernel
theorem d_D_needId_16 : decode m_D_needId.2.1 16 = .ok (.athrow, 1) := by decide +kernel
theorem d_D_needId_17 : decode m_D_needId.2.1 17 = .ok (.return_, 1) := by decide +kernel
theorem d_N_isId_0 : decode m_N_isId.2.1 0 = .ok (.iload_n 0, 1) := by decide +kernel
theorem d_N_isId_1 : decode m_N_isId.2.1 1 = .ok (.invokestatic 132, 3) := by decide +kernel
theorem d_N_isId_4 : decode m_N_isId.2.1 4 = .ok (.istore_n 1, 1) := by decide +kernel
theorem d_N_isId_5 : decode m_N_isId.2.1 5 = .ok (.iload_n 1, 1) := by decide +kernel
theorem d_N_isId_6 : decode m_N_isId.2.1 6 = .ok (.iconst 3, 1) := by decide +kernel
theorem d_N_isId_7 : decode m_N_isId.2.1 7 = .ok (.if_icmp .le 5, 3) := by decide +kernel
theorem d_N_isId_10 : decode m_N_isId.2.1 10 = .ok (.iconst 0, 1) := by decide +kernel
theorem d_N_isId_11 : decode m_N_isId.2.1 11 = .ok (.ireturn, 1) := by decide +kernel
theorem d_N_isId_12 : decode m_N_isId.2.1 12 = .ok (.iconst 0, 1) := by decide +kernel
theorem d_N_isId_13 : decode m_N_isId.2.1 13 = .ok (.istore_n 2, 1) := by decide +kernel
theorem d_N_isId_14 : decode m_N_isId.2.1 14 = .ok (.iload_n 2, 1) := by decide +kernel
theorem d_N_isId_15 : decode m_N_isId.2.1 15 = .ok (.iload_n 1, 1) := by decide +kernel
theorem d_N_isId_16 : decode m_N_isId.2.1 16 = .ok (.if_icmp .ge 27, 3) := by decide +kernel
theorem d_N_isId_19 : decode m_N_isId.2.1 19 = .ok (.iload_n 0, 1) := by decide +kernel
theorem d_N_isId_20 : decode m_N_isId.2.1 20 = .ok (.bipush 8, 2) := by decide +kernel
theorem d_N_isId_22 : decode m_N_isId.2.1 22 = .ok (.iload_n 2, 1) := by decide +kernel
theorem d_N_isId_23 : decode m_N_isId.2.1 23 = .ok (.imul, 1) := by decide +kernel
theorem d_N_isId_24 : decode m_N_isId.2.1 24 = .ok (.iushr, 1) := by decide +kernel
theorem d_N_isId_25 : decode m_N_isId.2.1 25 = .ok (.sipush 255, 3) := by decide +kernel
theorem d_N_isId_28 : decode m_N_isId.2.1 28 = .ok (.iand, 1) := by decide +kernel
theorem d_N_isId_29 : decode m_N_isId.2.1 29 = .ok (.invokestatic 135, 3) := by decide +kernel
theorem d_N_isId_32 : decode m_N_isId.2.1 32 = .ok (.ifCond .ne 5, 3) := by decide +kernel
theorem d_N_isId_35 : decode m_N_isId.2.1 35 = .ok (.iconst 0, 1) := by decide +kernel
theorem d_N_isId_36 : decode m_N_isId.2.1 36 = .ok (.ireturn, 1) := by decide +kernel
theorem d_N_isId_37 : decode m_N_isId.2.1 37 = .ok (.iinc 2 1, 3) := by decide +kernel
theorem d_N_isId_40 : decode m_N_isId.2.1 40 = .ok (.goto (-26), 3) := by decide +kernel
theorem d_N_isId_43 : decode m_N_isId.2.1 43 = .ok (.iconst 1, 1) := by decide +kernel
theorem d_N_isId_44 : decode m_N_isId.2.1 44 = .ok (.ireturn, 1) := by decide +kernel
theorem d_N_lengthOfId_0 : decode m_N_lengthOfId.2.1 0 = .ok (.iconst 1, 1) := by decide +kernel
theorem d_N_lengthOfId_1 : decode m_N_lengthOfId.2.1 1 = .ok (.istore_n 1, 1) := by decide +kernel
theorem d_N_lengthOfId_2 : decode m_N_lengthOfId.2.1 2 = .ok (.iload_n 1, 1) := by decide +kernel
theorem d_N_lengthOfId_3 : decode m_N_lengthOfId.2.1 3 = .ok (.iconst 4, 1) := by decide +kernel
theorem d_N_lengthOfId_4 : decode m_N_lengthOfId.2.1 4 = .ok (.if_icmp .ge 18, 3) := by decide +kernel
theorem d_N_lengthOfId_7 : decode m_N_lengthOfId.2.1 7 = .ok (.iload_n 0, 1) := by decide +kernel
theorem d_N_lengthOfId_8 : decode m_N_lengthOfId.2.1 8 = .ok (.bipush 8, 2) := by decide +kernel
theorem d_N_lengthOfId_10 : decode m_N_lengthOfId.2.1 10 = .ok (.iload_n 1, 1) := by decide +kernel
theorem d_N_lengthOfId_11 : decode m_N_lengthOfId.2.1 11 = .ok (.imul, 1) := by decide +kernel
theorem d_N_lengthOfId_12 : decode m_N_lengthOfId.2.1 12 = .ok (.iushr, 1) := by decide +kernel
theorem d_N_lengthOfId_13 : decode m_N_lengthOfId.2.1 13 = .ok (.ifCond .eq 9, 3) := by decide +kernel
theorem d_N_lengthOfId_16 : decode m_N_lengthOfId.2.1 16 = .ok (.iinc 1 1, 3) := by decide +kernel
theorem d_N_lengthOfId_19 : decode m_N_lengthOfId.2.1 19 = .ok (.goto (-17), 3) := by decide +kernel
theorem d_N_lengthOfId_22 : decode m_N_lengthOfId.2.1 22 = .ok (.iload_n 1, 1) := by decide +kernel
theorem d_N_lengthOfId_23 : decode m_N_lengthOfId.2.1 23 = .ok (.ireturn, 1) := by decide +kernel
theorem d_N_isSmallLetter_0 : decode m_N_isSmallLetter.2.1 0 = .ok (.iload_n 0, 1) := by decide +kernel
theorem d_N_isSmallLetter_1 : decode m_N_isSmallLetter.2.1 1 = .ok (.bipush 97, 2) := by decide +kernel
theorem d_N_isSmallLetter_3 : decode m_N_isSmallLetter.2.1 3 = .ok (.if_icmp .lt 13, 3) := by decide +kernel
theorem d_N_isSmallLetter_6 : decode m_N_isSmallLetter.2.1 6 = .ok (.iload_n 0, 1) := by decide +kernel
theorem d_N_isSmallLetter_7 : decode m_N_isSmallLetter.2.1 7 = .ok (.bipush 122, 2) := by decide +kernel
theorem d_N_isSmallLetter_9 : decode m_N_isSmallLetter.2.1 9 = .ok (.if_icmp .gt 7, 3) := by decide +kernel
theorem d_N_isSmallLetter_12 : decode m_N_isSmallLetter.2.1 12 = .ok (.iconst 1, 1) := by decide +kernel
theorem d_N_isSmallLetter_13 : decode m_N_isSmallLetter.2.1 13 = .ok (.goto 4, 3) := by decide +kernel
theorem d_N_isSmallLetter_16 : decode m_N_isSmallLetter.2.1 16 = .ok (.iconst 0, 1) := by decide +kernel
theorem d_N_isSmallLetter_17 : decode m_N_isSmallLetter.2.1 17 = .ok (.ireturn, 1) := by decide +kernel
theorem d_L_member_0 : decode m_L_member.2.1 0 = .ok (.aload_n 3, 1) := by decide +kernel
theorem d_L_member_1 : decode m_L_member.2.1 1 = .ok (.iconst 0, 1) := by decide +kernel
theorem d_L_member_2 : decode m_L_member.2.1 2 = .ok (.aload_n 0, 1) := by decide +kernel
theorem d_L_member_3 : decode m_L_member.2.1 3 = .ok (.iload_n 1, 1) := by decide +kernel
theorem d_L_member_4 : decode m_L_member.2.1 4 = .ok (.iload_n 2, 1) := by decide +kernel
theorem d_L_member_5 : decode m_L_member.2.1 5 = .ok (.invokevirtual 20, 3) := by decide +kernel
theorem d_L_member_8 : decode m_L_member.2.1 8 = .ok (.i2l, 1) := by decide +kernel
theorem d_L_member_9 : decode m_L_member.2.1 9 = .ok (.lastore, 1) := by decide +kernel
theorem d_L_member_10 : decode m_L_member.2.1 10 = .ok (.goto 11, 3) := by decide +kernel
theorem d_L_member_13 : decode m_L_member.2.1 13 = .ok (.astore 4, 2) := by decide +kernel
theorem d_L_member_15 : decode m_L_member.2.1 15 = .ok (.iconst 1, 1) := by decide +kernel
theorem d_L_member_16 : decode m_L_member.2.1 16 = .ok (.ireturn, 1) := by decide +kernel
theorem d_L_member_17 : decode m_L_member.2.1 17 = .ok (.astore 4, 2) := by decide +kernel
theorem d_L_member_19 : decode m_L_member.2.1 19 = .ok (.iconst 2, 1) := by decide +kernel
theorem d_L_member_20 : decode m_L_member.2.1 20 = .ok (.ireturn, 1) := by decide +kernel
theorem d_L_member_21 : decode m_L_member.2.1 21 = .ok (.iconst 0, 1) := by decide +kernel
theorem d_L_member_22 : decode m_L_member.2.1 22 = .ok (.ireturn, 1) := by decide +kernel
theorem d_N_member_0 : decode m_N_member.2.1 0 = .ok (.aload_n 0, 1) := by decide +kernel
theorem d_N_member_1 : decode m_N_member.2.1 1 = .ok (.getfield 13, 3) := by decide +kernel
theorem d_N_member_4 : decode m_N_member.2.1 4 = .ok (.invokevirtual 44, 3) := by decide +kernel
theorem d_N_member_7 : decode m_N_member.2.1 7 = .ok (.aload_n 0, 1) := by decide +kernel
theorem d_N_member_8 : decode m_N_member.2.1 8 = .ok (.getfield 13, 3) := by decide +kernel
theorem d_N_member_11 : decode m_N_member.2.1 11 = .ok (.aload_n 0, 1) := by decide +kernel
theorem d_N_member_12 : decode m_N_member.2.1 12 = .ok (.getfield 13, 3) := by decide +kernel
theorem d_N_member_15 : decode m_N_member.2.1 15 = .ok (.iload_n 1, 1) := by decide +kernel
theorem d_N_member_16 : decode m_N_member.2.1 16 = .ok (.iload_n 2, 1) := by decide +kernel
theorem d_N_member_17 : decode m_N_member.2.1 17 = .ok (.invokevirtual 57, 3) := by decide +kernel
theorem d_N_member_20 : decode m_N_member.2.1 20 = .ok (.invokevirtual 51, 3) := by decide +kernel
theorem d_N_member_23 : decode m_N_member.2.1 23 = .ok (.ireturn, 1) := by decide +kernel
theorem d_D_addMember_0 : decode m_D_addMember.2.1 0 = .ok (.aload_n 0, 1) := by decide +kernel
theorem d_D_addMember_1 : decode m_D_addMember.2.1 1 = .ok (.iload_n 1, 1) := by decide +kernel
theorem d_D_addMember_2 : decode m_D_addMember.2.1 2 = .ok (.invokevirtual 50, 3) := by decide +kernel
theorem d_D_addMember_5 : decode m_D_addMember.2.1 5 = .ok (.iload_n 2, 1) := by decide +kernel
theorem d_D_addMember_6 : decode m_D_addMember.2.1 6 = .ok (.invokestatic 46, 3) := by decide +kernel
theorem d_D_addMember_9 : decode m_D_addMember.2.1 9 = .ok (.aload_n 0, 1) := by decide +kernel
theorem d_D_addMember_10 : decode m_D_addMember.2.1 10 = .ok (.iconst 2, 1) := by decide +kernel
theorem d_D_addMember_11 : decode m_D_addMember.2.1 11 = .ok (.iload_n 2, 1) := by decide +kernel
theorem d_D_addMember_12 : decode m_D_addMember.2.1 12 = .ok (.iload_n 1, 1) := by decide +kernel
theorem d_D_addMember_13 : decode m_D_addMember.2.1 13 = .ok (.iconst (-1), 1) := by decide +kernel
theorem d_D_addMember_14 : decode m_D_addMember.2.1 14 = .ok (.iconst (-1), 1) := by decide +kernel
theorem d_D_addMember_15 : decode m_D_addMember.2.1 15 = .ok (.iconst (-1), 1) := by decide +kernel
theorem d_D_addMember_16 : decode m_D_addMember.2.1 16 = .ok (.iconst (-1), 1) := by decide +kernel
theorem d_D_addMember_17 : decode m_D_addMember.2.1 17 = .ok (.invokevirtual 42, 3) := by decide +kernel
theorem d_D_addMember_20 : decode m_D_addMember.2.1 20 = .ok (.ireturn, 1) := by decide +kernel
theorem d_D_needPrefix_0 : decode m_D_needPrefix.2.1 0 = .ok (.aload_n 0, 1) := by decide +kernel
theorem d_D_needPrefix_1 : decode m_D_needPrefix.2.1 1 = .ok (.iload_n 1, 1) := by decide +kernel
theorem d_D_needPrefix_2 : decode m_D_needPrefix.2.1 2 = .ok (.invokevirtual 53, 3) := by decide +kernel
theorem d_D_needPrefix_5 : decode m_D_needPrefix.2.1 5 = .ok (.istore_n 2, 1) := by decide +kernel
theorem d_D_needPrefix_6 : decode m_D_needPrefix.2.1 6 = .ok (.iload_n 2, 1) := by decide +kernel
theorem d_D_needPrefix_7 : decode m_D_needPrefix.2.1 7 = .ok (.iconst 1, 1) := by decide +kernel
theorem d_D_needPrefix_8 : decode m_D_needPrefix.2.1 8 = .ok (.if_icmp .lt 8, 3) := by decide +kernel
theorem d_D_needPrefix_11 : decode m_D_needPrefix.2.1 11 = .ok (.iload_n 2, 1) := by decide +kernel
theorem d_D_needPrefix_12 : decode m_D_needPrefix.2.1 12 = .ok (.iconst 3, 1) := by decide +kernel
theorem d_D_needPrefix_13 : decode m_D_needPrefix.2.1 13 = .ok (.if_icmp .le 13, 3) := by decide +kernel
theorem d_D_needPrefix_16 : decode m_D_needPrefix.2.1 16 = .ok (.new 37, 3) := by decide +kernel
theorem d_D_needPrefix_19 : decode m_D_needPrefix.2.1 19 = .ok (.dup, 1) := by decide +kernel
theorem d_D_needPrefix_20 : decode m_D_needPrefix.2.1 20 = .ok (.ldc 99, 2) := by decide +kernel
theorem d_D_needPrefix_22 : decode m_D_needPrefix.2.1 22 = .ok (.invokespecial 41, 3) := by decide +kernel
theorem d_D_needPrefix_25 : decode m_D_needPrefix.2.1 25 = .ok (.athrow, 1) := by decide +kernel
theorem d_D_needPrefix_26 : decode m_D_needPrefix.2.1 26 = .ok (.return_, 1) := by decide +kernel
theorem d_D_kindOf_0 : decode m_D_kindOf.2.1 0 = .ok (.iload_n 1, 1) := by decide +kernel
theorem d_D_kindOf_1 : decode m_D_kindOf.2.1 1 = .ok (.ifCond .lt 25, 3) := by decide +kernel
theorem d_D_kindOf_4 : decode m_D_kindOf.2.1 4 = .ok (.iload_n 1, 1) := by decide +kernel
theorem d_D_kindOf_5 : decode m_D_kindOf.2.1 5 = .ok (.aload_n 0, 1) := by decide +kernel
theorem d_D_kindOf_6 : decode m_D_kindOf.2.1 6 = .ok (.getfield 19, 3) := by decide +kernel
theorem d_D_kindOf_9 : decode m_D_kindOf.2.1 9 = .ok (.if_icmp .ge 17, 3) := by decide +kernel
theorem d_D_kindOf_12 : decode m_D_kindOf.2.1 12 = .ok (.aload_n 0, 1) := by decide +kernel
theorem d_D_kindOf_13 : decode m_D_kindOf.2.1 13 = .ok (.getfield 11, 3) := by decide +kernel
theorem d_D_kindOf_16 : decode m_D_kindOf.2.1 16 = .ok (.iload_n 1, 1) := by decide +kernel
theorem d_D_kindOf_17 : decode m_D_kindOf.2.1 17 = .ok (.bipush 8, 2) := by decide +kernel
theorem d_D_kindOf_19 : decode m_D_kindOf.2.1 19 = .ok (.imul, 1) := by decide +kernel
theorem d_D_kindOf_20 : decode m_D_kindOf.2.1 20 = .ok (.iconst 0, 1) := by decide +kernel
theorem d_D_kindOf_21 : decode m_D_kindOf.2.1 21 = .ok (.iadd, 1) := by decide +kernel
theorem d_D_kindOf_22 : decode m_D_kindOf.2.1 22 = .ok (.iaload, 1) := by decide +kernel
theorem d_D_kindOf_23 : decode m_D_kindOf.2.1 23 = .ok (.goto 4, 3) := by decide +kernel
theorem d_D_kindOf_26 : decode m_D_kindOf.2.1 26 = .ok (.iconst (-1), 1) := by decide +kernel
theorem d_D_kindOf_27 : decode m_D_kindOf.2.1 27 = .ok (.ireturn, 1) := by decide +kernel
theorem d_L_fill_0 : decode m_L_fill.2.1 0 = .ok (.aload 5, 2) := by decide +kernel
theorem d_L_fill_2 : decode m_L_fill.2.1 2 = .ok (.iconst 0, 1) := by decide +kernel
theorem d_L_fill_3 : decode m_L_fill.2.1 3 = .ok (.aload_n 0, 1) := by decide +kernel
theorem d_L_fill_4 : decode m_L_fill.2.1 4 = .ok (.iload_n 1, 1) := by decide +kernel
theorem d_L_fill_5 : decode m_L_fill.2.1 5 = .ok (.iload_n 2, 1) := by decide +kernel
theorem d_L_fill_6 : decode m_L_fill.2.1 6 = .ok (.iload_n 3, 1) := by decide +kernel
theorem d_L_fill_7 : decode m_L_fill.2.1 7 = .ok (.iload 4, 2) := by decide +kernel
theorem d_L_fill_9 : decode m_L_fill.2.1 9 = .ok (.invokevirtual 24, 3) := by decide +kernel
theorem d_L_fill_12 : decode m_L_fill.2.1 12 = .ok (.i2l, 1) := by decide +kernel
theorem d_L_fill_13 : decode m_L_fill.2.1 13 = .ok (.lastore, 1) := by decide +kernel
theorem d_L_fill_14 : decode m_L_fill.2.1 14 = .ok (.goto 11, 3) := by decide +kernel
theorem d_L_fill_17 : decode m_L_fill.2.1 17 = .ok (.astore 6, 2) := by decide +kernel
theorem d_L_fill_19 : decode m_L_fill.2.1 19 = .ok (.iconst 1, 1) := by decide +kernel
theorem d_L_fill_20 : decode m_L_fill.2.1 20 = .ok (.ireturn, 1) := by decide +kernel
theorem d_L_fill_21 : decode m_L_fill.2.1 21 = .ok (.astore 6, 2) := by decide +kernel
theorem d_L_fill_23 : decode m_L_fill.2.1 23 = .ok (.iconst 2, 1) := by decide +kernel
theorem d_L_fill_24 : decode m_L_fill.2.1 24 = .ok (.ireturn, 1) := by decide +kernel
theorem d_L_fill_25 : decode m_L_fill.2.1 25 = .ok (.iconst 0, 1) := by decide +kernel
theorem d_L_fill_26 : decode m_L_fill.2.1 26 = .ok (.ireturn, 1) := by decide +kernel
theorem d_N_fill_0 : decode m_N_fill.2.1 0 = .ok (.aload_n 0, 1) := by decide +kernel
theorem d_N_fill_1 : decode m_N_fill.2.1 1 = .ok (.getfield 13, 3) := by decide +kernel
theorem d_N_fill_4 : decode m_N_fill.2.1 4 = .ok (.invokevirtual 44, 3) := by decide +kernel
theorem d_N_fill_7 : decode m_N_fill.2.1 7 = .ok (.aload_n 0, 1) := by decide +kernel
theorem d_N_fill_8 : decode m_N_fill.2.1 8 = .ok (.getfield 13, 3) := by decide +kernel
theorem d_N_fill_11 : decode m_N_fill.2.1 11 = .ok (.aload_n 0, 1) := by decide +kernel
theorem d_N_fill_12 : decode m_N_fill.2.1 12 = .ok (.getfield 13, 3) := by decide +kernel
theorem d_N_fill_15 : decode m_N_fill.2.1 15 = .ok (.iload_n 1, 1) := by decide +kernel
theorem d_N_fill_16 : decode m_N_fill.2.1 16 = .ok (.iload_n 2, 1) := by decide +kernel
theorem d_N_fill_17 : decode m_N_fill.2.1 17 = .ok (.iload_n 3, 1) := by decide +kernel
theorem d_N_fill_18 : decode m_N_fill.2.1 18 = .ok (.iload 4, 2) := by decide +kernel
theorem d_N_fill_20 : decode m_N_fill.2.1 20 = .ok (.invokevirtual 61, 3) := by decide +kernel
theorem d_N_fill_23 : decode m_N_fill.2.1 23 = .ok (.invokevirtual 51, 3) := by decide +kernel
theorem d_N_fill_26 : decode m_N_fill.2.1 26 = .ok (.ireturn, 1) := by decide +kernel
theorem d_D_addFilled_0 : decode m_D_addFilled.2.1 0 = .ok (.aload_n 0, 1) := by decide +kernel
theorem d_D_addFilled_1 : decode m_D_addFilled.2.1 1 = .ok (.iload_n 1, 1) := by decide +kernel
theorem d_D_addFilled_2 : decode m_D_addFilled.2.1 2 = .ok (.invokevirtual 53, 3) := by decide +kernel
theorem d_D_addFilled_5 : decode m_D_addFilled.2.1 5 = .ok (.istore 5, 2) := by decide +kernel
theorem d_D_addFilled_7 : decode m_D_addFilled.2.1 7 = .ok (.iload 5, 2) := by decide +kernel
theorem d_D_addFilled_9 : decode m_D_addFilled.2.1 9 = .ok (.iconst 1, 1) := by decide +kernel
theorem d_D_addFilled_10 : decode m_D_addFilled.2.1 10 = .ok (.if_icmp .eq 19, 3) := by decide +kernel
theorem d_D_addFilled_13 : decode m_D_addFilled.2.1 13 = .ok (.iload 5, 2) := by decide +kernel
theorem d_D_addFilled_15 : decode m_D_addFilled.2.1 15 = .ok (.iconst 2, 1) := by decide +kernel
theorem d_D_addFilled_16 : decode m_D_addFilled.2.1 16 = .ok (.if_icmp .eq 13, 3) := by decide +kernel
theorem d_D_addFilled_19 : decode m_D_addFilled.2.1 19 = .ok (.new 37, 3) := by decide +kernel
theorem d_D_addFilled_22 : decode m_D_addFilled.2.1 22 = .ok (.dup, 1) := by decide +kernel
theorem d_D_addFilled_23 : decode m_D_addFilled.2.1 23 = .ok (.ldc 57, 2) := by decide +kernel
theorem d_D_addFilled_25 : decode m_D_addFilled.2.1 25 = .ok (.invokespecial 41, 3) := by decide +kernel
theorem d_D_addFilled_28 : decode m_D_addFilled.2.1 28 = .ok (.athrow, 1) := by decide +kernel
theorem d_D_addFilled_29 : decode m_D_addFilled.2.1 29 = .ok (.aload_n 0, 1) := by decide +kernel
theorem d_D_addFilled_30 : decode m_D_addFilled.2.1 30 = .ok (.iload_n 2, 1) := by decide +kernel
theorem d_D_addFilled_31 : decode m_D_addFilled.2.1 31 = .ok (.invokevirtual 59, 3) := by decide +kernel
theorem d_D_addFilled_34 : decode m_D_addFilled.2.1 34 = .ok (.ifCond .eq 24, 3) := by decide +kernel
theorem d_D_addFilled_37 : decode m_D_addFilled.2.1 37 = .ok (.aload_n 0, 1) := by decide +kernel
theorem d_D_addFilled_38 : decode m_D_addFilled.2.1 38 = .ok (.iload_n 3, 1) := by decide +kernel
theorem d_D_addFilled_39 : decode m_D_addFilled.2.1 39 = .ok (.invokevirtual 59, 3) := by decide +kernel
theorem d_D_addFilled_42 : decode m_D_addFilled.2.1 42 = .ok (.ifCond .eq 16, 3) := by decide +kernel
theorem d_D_addFilled_45 : decode m_D_addFilled.2.1 45 = .ok (.aload_n 0, 1) := by decide +kernel
theorem d_D_addFilled_46 : decode m_D_addFilled.2.1 46 = .ok (.iload 4, 2) := by decide +kernel
theorem d_D_addFilled_48 : decode m_D_addFilled.2.1 48 = .ok (.invokevirtual 59, 3) := by decide +kernel
theorem d_D_addFilled_51 : decode m_D_addFilled.2.1 51 = .ok (.ifCond .eq 7, 3) := by decide +kernel
theorem d_D_addFilled_54 : decode m_D_addFilled.2.1 54 = .ok (.iconst 1, 1) := by decide +kernel
theorem d_D_addFilled_55 : decode m_D_addFilled.2.1 55 = .ok (.goto 4, 3) := by decide +kernel
theorem d_D_addFilled_58 : decode m_D_addFilled.2.1 58 = .ok (.iconst 0, 1) := by decide +kernel
theorem d_D_addFilled_59 : decode m_D_addFilled.2.1 59 = .ok (.istore 6, 2) := by decide +kernel
theorem d_D_addFilled_61 : decode m_D_addFilled.2.1 61 = .ok (.iload_n 2, 1) := by decide +kernel
theorem d_D_addFilled_62 : decode m_D_addFilled.2.1 62 = .ok (.iconst (-1), 1) := by decide +kernel
theorem d_D_addFilled_63 : decode m_D_addFilled.2.1 63 = .ok (.if_icmp .eq 18, 3) := by decide +kernel
theorem d_D_addFilled_66 : decode m_D_addFilled.2.1 66 = .ok (.iload 6, 2) := by decide +kernel
theorem d_D_addFilled_68 : decode m_D_addFilled.2.1 68 = .ok (.ifCond .eq 13, 3) := by decide +kernel
theorem d_D_addFilled_71 : decode m_D_addFilled.2.1 71 = .ok (.iload_n 2, 1) := by decide +kernel
theorem d_D_addFilled_72 : decode m_D_addFilled.2.1 72 = .ok (.iload_n 3, 1) := by decide +kernel
theorem d_D_addFilled_73 : decode m_D_addFilled.2.1 73 = .ok (.iload 4, 2) := by decide +kernel
theorem d_D_addFilled_75 : decode m_D_addFilled.2.1 75 = .ok (.invokestatic 63, 3) := by decide +kernel
theorem d_D_addFilled_78 : decode m_D_addFilled.2.1 78 = .ok (.ifCond .eq 13, 3) := by decide +kernel
theorem d_D_addFilled_81 : decode m_D_addFilled.2.1 81 = .ok (.new 37, 3) := by decide +kernel
theorem d_D_addFilled_84 : decode m_D_addFilled.2.1 84 = .ok (.dup, 1) := by decide +kernel
theorem d_D_addFilled_85 : decode m_D_addFilled.2.1 85 = .ok (.ldc 67, 2) := by decide +kernel
theorem d_D_addFilled_87 : decode m_D_addFilled.2.1 87 = .ok (.invokespecial 41, 3) := by decide +kernel
theorem d_D_addFilled_90 : decode m_D_addFilled.2.1 90 = .ok (.athrow, 1) := by decide +kernel
theorem d_D_addFilled_91 : decode m_D_addFilled.2.1 91 = .ok (.aload_n 0, 1) := by decide +kernel
theorem d_D_addFilled_92 : decode m_D_addFilled.2.1 92 = .ok (.iconst 3, 1) := by decide +kernel
theorem d_D_addFilled_93 : decode m_D_addFilled.2.1 93 = .ok (.iconst 0, 1) := by decide +kernel
theorem d_D_addFilled_94 : decode m_D_addFilled.2.1 94 = .ok (.iload_n 1, 1) := by decide +kernel
theorem d_D_addFilled_95 : decode m_D_addFilled.2.1 95 = .ok (.iconst (-1), 1) := by decide +kernel
theorem d_D_addFilled_96 : decode m_D_addFilled.2.1 96 = .ok (.iload_n 2, 1) := by decide +kernel
theorem d_D_addFilled_97 : decode m_D_addFilled.2.1 97 = .ok (.iload_n 3, 1) := by decide +kernel
theorem d_D_addFilled_98 : decode m_D_addFilled.2.1 98 = .ok (.iload 4, 2) := by decide +kernel
theorem d_D_addFilled_100 : decode m_D_addFilled.2.1 100 = .ok (.invokevirtual 42, 3) := by decide +kernel
theorem d_D_addFilled_103 : decode m_D_addFilled.2.1 103 = .ok (.ireturn, 1) := by decide +kernel
theorem d_D_isArgumentOrNone_0 : decode m_D_isArgumentOrNone.2.1 0 = .ok (.iload_n 1, 1) := by decide +kernel
theorem d_D_isArgumentOrNone_1 : decode m_D_isArgumentOrNone.2.1 1 = .ok (.iconst (-1), 1) := by decide +kernel
theorem d_D_isArgumentOrNone_2 : decode m_D_isArgumentOrNone.2.1 2 = .ok (.if_icmp .eq 21, 3) := by decide +kernel
theorem d_D_isArgumentOrNone_5 : decode m_D_isArgumentOrNone.2.1 5 = .ok (.aload_n 0, 1) := by decide +kernel
theorem d_D_isArgumentOrNone_6 : decode m_D_isArgumentOrNone.2.1 6 = .ok (.iload_n 1, 1) := by decide +kernel
theorem d_D_isArgumentOrNone_7 : decode m_D_isArgumentOrNone.2.1 7 = .ok (.invokevirtual 101, 3) := by decide +kernel
theorem d_D_isArgumentOrNone_10 : decode m_D_isArgumentOrNone.2.1 10 = .ok (.ifCond .ne 13, 3) := by decide +kernel
theorem d_D_isArgumentOrNone_13 : decode m_D_isArgumentOrNone.2.1 13 = .ok (.aload_n 0, 1) := by decide +kernel
theorem d_D_isArgumentOrNone_14 : decode m_D_isArgumentOrNone.2.1 14 = .ok (.iload_n 1, 1) := by decide +kernel
theorem d_D_isArgumentOrNone_15 : decode m_D_isArgumentOrNone.2.1 15 = .ok (.invokevirtual 53, 3) := by decide +kernel
theorem d_D_isArgumentOrNone_18 : decode m_D_isArgumentOrNone.2.1 18 = .ok (.bipush 9, 2) := by decide +kernel
theorem d_D_isArgumentOrNone_20 : decode m_D_isArgumentOrNone.2.1 20 = .ok (.if_icmp .ne 7, 3) := by decide +kernel
theorem d_D_isArgumentOrNone_23 : decode m_D_isArgumentOrNone.2.1 23 = .ok (.iconst 1, 1) := by decide +kernel
theorem d_D_isArgumentOrNone_24 : decode m_D_isArgumentOrNone.2.1 24 = .ok (.goto 4, 3) := by decide +kernel
theorem d_D_isArgumentOrNone_27 : decode m_D_isArgumentOrNone.2.1 27 = .ok (.iconst 0, 1) := by decide +kernel
theorem d_D_isArgumentOrNone_28 : decode m_D_isArgumentOrNone.2.1 28 = .ok (.ireturn, 1) := by decide +kernel
theorem d_D_isType_0 : decode m_D_isType.2.1 0 = .ok (.aload_n 0, 1) := by decide +kernel
theorem d_D_isType_1 : decode m_D_isType.2.1 1 = .ok (.iload_n 1, 1) := by decide +kernel
theorem d_D_isType_2 : decode m_D_isType.2.1 2 = .ok (.invokevirtual 53, 3) := by decide +kernel
theorem d_D_isType_5 : decode m_D_isType.2.1 5 = .ok (.istore_n 2, 1) := by decide +kernel
theorem d_D_isType_6 : decode m_D_isType.2.1 6 = .ok (.iload_n 2, 1) := by decide +kernel
theorem d_D_isType_7 : decode m_D_isType.2.1 7 = .ok (.ifCond .lt 13, 3) := by decide +kernel
theorem d_D_isType_10 : decode m_D_isType.2.1 10 = .ok (.iload_n 2, 1) := by decide +kernel
theorem d_D_isType_11 : decode m_D_isType.2.1 11 = .ok (.bipush 8, 2) := by decide +kernel
theorem d_D_isType_13 : decode m_D_isType.2.1 13 = .ok (.if_icmp .gt 7, 3) := by decide +kernel
theorem d_D_isType_16 : decode m_D_isType.2.1 16 = .ok (.iconst 1, 1) := by decide +kernel
theorem d_D_isType_17 : decode m_D_isType.2.1 17 = .ok (.goto 4, 3) := by decide +kernel
theorem d_D_isType_20 : decode m_D_isType.2.1 20 = .ok (.iconst 0, 1) := by decide +kernel
theorem d_D_isType_21 : decode m_D_isType.2.1 21 = .ok (.ireturn, 1) := by decide +kernel
theorem d_D_hasGap_0 : decode m_D_hasGap.2.1 0 = .ok (.iload_n 0, 1) := by decide +kernel
theorem d_D_hasGap_1 : decode m_D_hasGap.2.1 1 = .ok (.iconst (-1), 1) := by decide +kernel
theorem d_D_hasGap_2 : decode m_D_hasGap.2.1 2 = .ok (.if_icmp .ne 8, 3) := by decide +kernel
theorem d_D_hasGap_5 : decode m_D_hasGap.2.1 5 = .ok (.iload_n 1, 1) := by decide +kernel
theorem d_D_hasGap_6 : decode m_D_hasGap.2.1 6 = .ok (.iconst (-1), 1) := by decide +kernel
theorem d_D_hasGap_7 : decode m_D_hasGap.2.1 7 = .ok (.if_icmp .ne 13, 3) := by decide +kernel
theorem d_D_hasGap_10 : decode m_D_hasGap.2.1 10 = .ok (.iload_n 1, 1) := by decide +kernel
theorem d_D_hasGap_11 : decode m_D_hasGap.2.1 11 = .ok (.iconst (-1), 1) := by decide +kernel
theorem d_D_hasGap_12 : decode m_D_hasGap.2.1 12 = .ok (.if_icmp .ne 12, 3) := by decide +kernel
theorem d_D_hasGap_15 : decode m_D_hasGap.2.1 15 = .ok (.iload_n 2, 1) := by decide +kernel
theorem d_D_hasGap_16 : decode m_D_hasGap.2.1 16 = .ok (.iconst (-1), 1) := by decide +kernel
theorem d_D_hasGap_17 : decode m_D_hasGap.2.1 17 = .ok (.if_icmp .eq 7, 3) := by decide +kernel
theorem d_D_hasGap_20 : decode m_D_hasGap.2.1 20 = .ok (.iconst 1, 1) := by decide +kernel
theorem d_D_hasGap_21 : decode m_D_hasGap.2.1 21 = .ok (.goto 4, 3) := by decide +kernel
theorem d_D_hasGap_24 : decode m_D_hasGap.2.1 24 = .ok (.iconst 0, 1) := by decide +kernel
theorem d_D_hasGap_25 : decode m_D_hasGap.2.1 25 = .ok (.ireturn, 1) := by decide +kernel
theorem d_L_wrap_0 : decode m_L_wrap.2.1 0 = .ok (.aload_n 3, 1) := by decide +kernel
theorem d_L_wrap_1 : decode m_L_wrap.2.1 1 = .ok (.iconst 0, 1) := by decide +kernel
theorem d_L_wrap_2 : decode m_L_wrap.2.1 2 = .ok (.aload_n 0, 1) := by decide +kernel
theorem d_L_wrap_3 : decode m_L_wrap.2.1 3 = .ok (.iload_n 1, 1) := by decide +kernel
theorem d_L_wrap_4 : decode m_L_wrap.2.1 4 = .ok (.iload_n 2, 1) := by decide +kernel
theorem d_L_wrap_5 : decode m_L_wrap.2.1 5 = .ok (.invokevirtual 28, 3) := by decide +kernel
theorem d_L_wrap_8 : decode m_L_wrap.2.1 8 = .ok (.i2l, 1) := by decide +kernel
theorem d_L_wrap_9 : decode m_L_wrap.2.1 9 = .ok (.lastore, 1) := by decide +kernel
theorem d_L_wrap_10 : decode m_L_wrap.2.1 10 = .ok (.goto 11, 3) := by decide +kernel
theorem d_L_wrap_13 : decode m_L_wrap.2.1 13 = .ok (.astore 4, 2) := by decide +kernel
theorem d_L_wrap_15 : decode m_L_wrap.2.1 15 = .ok (.iconst 1, 1) := by decide +kernel
theorem d_L_wrap_16 : decode m_L_wrap.2.1 16 = .ok (.ireturn, 1) := by decide +kernel
theorem d_L_wrap_17 : decode m_L_wrap.2.1 17 = .ok (.astore 4, 2) := by decide +kernel
theorem d_L_wrap_19 : decode m_L_wrap.2.1 19 = .ok (.iconst 2, 1) := by decide +kernel
theorem d_L_wrap_20 : decode m_L_wrap.2.1 20 = .ok (.ireturn, 1) := by decide +kernel
theorem d_L_wrap_21 : decode m_L_wrap.2.1 21 = .ok (.iconst 0, 1) := by decide +kernel
theorem d_L_wrap_22 : decode m_L_wrap.2.1 22 = .ok (.ireturn, 1) := by decide +kernel
theorem d_N_wrap_0 : decode m_N_wrap.2.1 0 = .ok (.aload_n 0, 1) := by decide +kernel
theorem d_N_wrap_1 : decode m_N_wrap.2.1 1 = .ok (.getfield 13, 3) := by decide +kernel
theorem d_N_wrap_4 : decode m_N_wrap.2.1 4 = .ok (.invokevirtual 44, 3) := by decide +kernel
theorem d_N_wrap_7 : decode m_N_wrap.2.1 7 = .ok (.aload_n 0, 1) := by decide +kernel
theorem d_N_wrap_8 : decode m_N_wrap.2.1 8 = .ok (.getfield 13, 3) := by decide +kernel
theorem d_N_wrap_11 : decode m_N_wrap.2.1 11 = .ok (.aload_n 0, 1) := by decide +kernel
theorem d_N_wrap_12 : decode m_N_wrap.2.1 12 = .ok (.getfield 13, 3) := by decide +kernel
theorem d_N_wrap_15 : decode m_N_wrap.2.1 15 = .ok (.iload_n 1, 1) := by decide +kernel
theorem d_N_wrap_16 : decode m_N_wrap.2.1 16 = .ok (.iload_n 2, 1) := by decide +kernel
theorem d_N_wrap_17 : decode m_N_wrap.2.1 17 = .ok (.invokevirtual 65, 3) := by decide +kernel
theorem d_N_wrap_20 : decode m_N_wrap.2.1 20 = .ok (.invokevirtual 51, 3) := by decide +kernel
theorem d_N_wrap_23 : decode m_N_wrap.2.1 23 = .ok (.ireturn, 1) := by decide +kernel
theorem d_D_addWrapped_0 : decode m_D_addWrapped.2.1 0 = .ok (.iload_n 1, 1) := by decide +kernel
theorem d_D_addWrapped_1 : decode m_D_addWrapped.2.1 1 = .ok (.iconst 4, 1) := by decide +kernel
theorem d_D_addWrapped_2 : decode m_D_addWrapped.2.1 2 = .ok (.if_icmp .eq 24, 3) := by decide +kernel
theorem d_D_addWrapped_5 : decode m_D_addWrapped.2.1 5 = .ok (.iload_n 1, 1) := by decide +kernel
theorem d_D_addWrapped_6 : decode m_D_addWrapped.2.1 6 = .ok (.iconst 5, 1) := by decide +kernel
theorem d_D_addWrapped_7 : decode m_D_addWrapped.2.1 7 = .ok (.if_icmp .eq 19, 3) := by decide +kernel
theorem d_D_addWrapped_10 : decode m_D_addWrapped.2.1 10 = .ok (.iload_n 1, 1) := by decide +kernel
theorem d_D_addWrapped_11 : decode m_D_addWrapped.2.1 11 = .ok (.bipush 6, 2) := by decide +kernel
theorem d_D_addWrapped_13 : decode m_D_addWrapped.2.1 13 = .ok (.if_icmp .eq 13, 3) := by decide +kernel
theorem d_D_addWrapped_16 : decode m_D_addWrapped.2.1 16 = .ok (.new 37, 3) := by decide +kernel
theorem d_D_addWrapped_19 : decode m_D_addWrapped.2.1 19 = .ok (.dup, 1) := by decide +kernel
theorem d_D_addWrapped_20 : decode m_D_addWrapped.2.1 20 = .ok (.ldc 69, 2) := by decide +kernel
theorem d_D_addWrapped_22 : decode m_D_addWrapped.2.1 22 = .ok (.invokespecial 41, 3) := by decide +kernel
theorem d_D_addWrapped_25 : decode m_D_addWrapped.2.1 25 = .ok (.athrow, 1) := by decide +kernel
theorem d_D_addWrapped_26 : decode m_D_addWrapped.2.1 26 = .ok (.aload_n 0, 1) := by decide +kernel
theorem d_D_addWrapped_27 : decode m_D_addWrapped.2.1 27 = .ok (.iload_n 2, 1) := by decide +kernel
theorem d_D_addWrapped_28 : decode m_D_addWrapped.2.1 28 = .ok (.invokevirtual 71, 3) := by decide +kernel
theorem d_D_addWrapped_31 : decode m_D_addWrapped.2.1 31 = .ok (.iload_n 1, 1) := by decide +kernel
theorem d_D_addWrapped_32 : decode m_D_addWrapped.2.1 32 = .ok (.bipush 6, 2) := by decide +kernel
theorem d_D_addWrapped_34 : decode m_D_addWrapped.2.1 34 = .ok (.if_icmp .ne 23, 3) := by decide +kernel
theorem d_D_addWrapped_37 : decode m_D_addWrapped.2.1 37 = .ok (.aload_n 0, 1) := by decide +kernel
theorem d_D_addWrapped_38 : decode m_D_addWrapped.2.1 38 = .ok (.iload_n 2, 1) := by decide +kernel
theorem d_D_addWrapped_39 : decode m_D_addWrapped.2.1 39 = .ok (.invokevirtual 53, 3) := by decide +kernel
theorem d_D_addWrapped_42 : decode m_D_addWrapped.2.1 42 = .ok (.bipush 6, 2) := by decide +kernel
theorem d_D_addWrapped_44 : decode m_D_addWrapped.2.1 44 = .ok (.if_icmp .ne 13, 3) := by decide +kernel
theorem d_D_addWrapped_47 : decode m_D_addWrapped.2.1 47 = .ok (.new 37, 3) := by decide +kernel
theorem d_D_addWrapped_50 : decode m_D_addWrapped.2.1 50 = .ok (.dup, 1) := by decide +kernel
theorem d_D_addWrapped_51 : decode m_D_addWrapped.2.1 51 = .ok (.ldc 74, 2) := by decide +kernel
theorem d_D_addWrapped_53 : decode m_D_addWrapped.2.1 53 = .ok (.invokespecial 41, 3) := by decide +kernel
theorem d_D_addWrapped_56 : decode m_D_addWrapped.2.1 56 = .ok (.athrow, 1) := by decide +kernel
theorem d_D_addWrapped_57 : decode m_D_addWrapped.2.1 57 = .ok (.aload_n 0, 1) := by decide +kernel
theorem d_D_addWrapped_58 : decode m_D_addWrapped.2.1 58 = .ok (.iload_n 1, 1) := by decide +kernel
theorem d_D_addWrapped_59 : decode m_D_addWrapped.2.1 59 = .ok (.iconst 0, 1) := by decide +kernel
theorem d_D_addWrapped_60 : decode m_D_addWrapped.2.1 60 = .ok (.iload_n 2, 1) := by decide +kernel
theorem d_D_addWrapped_61 : decode m_D_addWrapped.2.1 61 = .ok (.iconst (-1), 1) := by decide +kernel
theorem d_D_addWrapped_62 : decode m_D_addWrapped.2.1 62 = .ok (.iconst (-1), 1) := by decide +kernel
theorem d_D_addWrapped_63 : decode m_D_addWrapped.2.1 63 = .ok (.iconst (-1), 1) := by decide +kernel
theorem d_D_addWrapped_64 : decode m_D_addWrapped.2.1 64 = .ok (.iconst (-1), 1) := by decide +kernel
theorem d_D_addWrapped_65 : decode m_D_addWrapped.2.1 65 = .ok (.invokevirtual 42, 3) := by decide +kernel
theorem d_D_addWrapped_68 : decode m_D_addWrapped.2.1 68 = .ok (.ireturn, 1) := by decide +kernel
theorem d_D_needType_0 : decode m_D_needType.2.1 0 = .ok (.aload_n 0, 1) := by decide +kernel
theorem d_D_needType_1 : decode m_D_needType.2.1 1 = .ok (.iload_n 1, 1) := by decide +kernel
theorem d_D_needType_2 : decode m_D_needType.2.1 2 = .ok (.invokevirtual 101, 3) := by decide +kernel
theorem d_D_needType_5 : decode m_D_needType.2.1 5 = .ok (.ifCond .ne 13, 3) := by decide +kernel
theorem d_D_needType_8 : decode m_D_needType.2.1 8 = .ok (.new 37, 3) := by decide +kernel
theorem d_D_needType_11 : decode m_D_needType.2.1 11 = .ok (.dup, 1) := by decide +kernel
theorem d_D_needType_12 : decode m_D_needType.2.1 12 = .ok (.ldc 104, 2) := by decide +kernel
theorem d_D_needType_14 : decode m_D_needType.2.1 14 = .ok (.invokespecial 41, 3) := by decide +kernel
theorem d_D_needType_17 : decode m_D_needType.2.1 17 = .ok (.athrow, 1) := by decide +kernel
theorem d_D_needType_18 : decode m_D_needType.2.1 18 = .ok (.return_, 1) := by decide +kernel
theorem d_L_array_0 : decode m_L_array.2.1 0 = .ok (.aload_n 3, 1) := by decide +kernel
theorem d_L_array_1 : decode m_L_array.2.1 1 = .ok (.iconst 0, 1) := by decide +kernel
theorem d_L_array_2 : decode m_L_array.2.1 2 = .ok (.aload_n 0, 1) := by decide +kernel
theorem d_L_array_3 : decode m_L_array.2.1 3 = .ok (.iload_n 1, 1) := by decide +kernel
theorem d_L_array_4 : decode m_L_array.2.1 4 = .ok (.iload_n 2, 1) := by decide +kernel
theorem d_L_array_5 : decode m_L_array.2.1 5 = .ok (.invokevirtual 31, 3) := by decide +kernel
theorem d_L_array_8 : decode m_L_array.2.1 8 = .ok (.i2l, 1) := by decide +kernel
theorem d_L_array_9 : decode m_L_array.2.1 9 = .ok (.lastore, 1) := by decide +kernel
theorem d_L_array_10 : decode m_L_array.2.1 10 = .ok (.goto 11, 3) := by decide +kernel
theorem d_L_array_13 : decode m_L_array.2.1 13 = .ok (.astore 4, 2) := by decide +kernel
theorem d_L_array_15 : decode m_L_array.2.1 15 = .ok (.iconst 1, 1) := by decide +kernel
theorem d_L_array_16 : decode m_L_array.2.1 16 = .ok (.ireturn, 1) := by decide +kernel
theorem d_L_array_17 : decode m_L_array.2.1 17 = .ok (.astore 4, 2) := by decide +kernel
theorem d_L_array_19 : decode m_L_array.2.1 19 = .ok (.iconst 2, 1) := by decide +kernel
theorem d_L_array_20 : decode m_L_array.2.1 20 = .ok (.ireturn, 1) := by decide +kernel
theorem d_L_array_21 : decode m_L_array.2.1 21 = .ok (.iconst 0, 1) := by decide +kernel
theorem d_L_array_22 : decode m_L_array.2.1 22 = .ok (.ireturn, 1) := by decide +kernel
theorem d_N_array_0 : decode m_N_array.2.1 0 = .ok (.aload_n 0, 1) := by decide +kernel
theorem d_N_array_1 : decode m_N_array.2.1 1 = .ok (.getfield 13, 3) := by decide +kernel
theorem d_N_array_4 : decode m_N_array.2.1 4 = .ok (.invokevirtual 44, 3) := by decide +kernel
theorem d_N_array_7 : decode m_N_array.2.1 7 = .ok (.aload_n 0, 1) := by decide +kernel
theorem d_N_array_8 : decode m_N_array.2.1 8 = .ok (.getfield 13, 3) := by decide +kernel
theorem d_N_array_11 : decode m_N_array.2.1 11 = .ok (.aload_n 0, 1) := by decide +kernel
theorem d_N_array_12 : decode m_N_array.2.1 12 = .ok (.getfield 13, 3) := by decide +kernel
theorem d_N_array_15 : decode m_N_array.2.1 15 = .ok (.iload_n 1, 1) := by decide +kernel
theorem d_N_array_16 : decode m_N_array.2.1 16 = .ok (.iload_n 2, 1) := by decide +kernel
theorem d_N_array_17 : decode m_N_array.2.1 17 = .ok (.invokevirtual 68, 3) := by decide +kernel
theorem d_N_array_20 : decode m_N_array.2.1 20 = .ok (.invokevirtual 51, 3) := by decide +kernel
theorem d_N_array_23 : decode m_N_array.2.1 23 = .ok (.ireturn, 1) := by decide +kernel
theorem d_D_addArray_0 : decode m_D_addArray.2.1 0 = .ok (.aload_n 0, 1) := by decide +kernel
theorem d_D_addArray_1 : decode m_D_addArray.2.1 1 = .ok (.iload_n 1, 1) := by decide +kernel
theorem d_D_addArray_2 : decode m_D_addArray.2.1 2 = .ok (.invokevirtual 71, 3) := by decide +kernel
theorem d_D_addArray_5 : decode m_D_addArray.2.1 5 = .ok (.iload_n 2, 1) := by decide +kernel
theorem d_D_addArray_6 : decode m_D_addArray.2.1 6 = .ok (.iconst 1, 1) := by decide +kernel
theorem d_D_addArray_7 : decode m_D_addArray.2.1 7 = .ok (.if_icmp .lt 10, 3) := by decide +kernel
theorem d_D_addArray_10 : decode m_D_addArray.2.1 10 = .ok (.iload_n 2, 1) := by decide +kernel
theorem d_D_addArray_11 : decode m_D_addArray.2.1 11 = .ok (.sipush 999, 3) := by decide +kernel
theorem d_D_addArray_14 : decode m_D_addArray.2.1 14 = .ok (.if_icmp .le 13, 3) := by decide +kernel
theorem d_D_addArray_17 : decode m_D_addArray.2.1 17 = .ok (.new 37, 3) := by decide +kernel
theorem d_D_addArray_20 : decode m_D_addArray.2.1 20 = .ok (.dup, 1) := by decide +kernel
theorem d_D_addArray_21 : decode m_D_addArray.2.1 21 = .ok (.ldc 76, 2) := by decide +kernel
theorem d_D_addArray_23 : decode m_D_addArray.2.1 23 = .ok (.invokespecial 41, 3) := by decide +kernel
theorem d_D_addArray_26 : decode m_D_addArray.2.1 26 = .ok (.athrow, 1) := by decide +kernel
theorem d_D_addArray_27 : decode m_D_addArray.2.1 27 = .ok (.aload_n 0, 1) := by decide +kernel
theorem d_D_addArray_28 : decode m_D_addArray.2.1 28 = .ok (.bipush 7, 2) := by decide +kernel
theorem d_D_addArray_30 : decode m_D_addArray.2.1 30 = .ok (.iload_n 2, 1) := by decide +kernel
theorem d_D_addArray_31 : decode m_D_addArray.2.1 31 = .ok (.iload_n 1, 1) := by decide +kernel
theorem d_D_addArray_32 : decode m_D_addArray.2.1 32 = .ok (.iconst (-1), 1) := by decide +kernel
theorem d_D_addArray_33 : decode m_D_addArray.2.1 33 = .ok (.iconst (-1), 1) := by decide +kernel
theorem d_D_addArray_34 : decode m_D_addArray.2.1 34 = .ok (.iconst (-1), 1) := by decide +kernel
theorem d_D_addArray_35 : decode m_D_addArray.2.1 35 = .ok (.iconst (-1), 1) := by decide +kernel
theorem d_D_addArray_36 : decode m_D_addArray.2.1 36 = .ok (.invokevirtual 42, 3) := by decide +kernel
theorem d_D_addArray_39 : decode m_D_addArray.2.1 39 = .ok (.ireturn, 1) := by decide +kernel
theorem d_L_function_0 : decode m_L_function.2.1 0 = .ok (.aload 5, 2) := by decide +kernel
theorem d_L_function_2 : decode m_L_function.2.1 2 = .ok (.iconst 0, 1) := by decide +kernel
theorem d_L_function_3 : decode m_L_function.2.1 3 = .ok (.aload_n 0, 1) := by decide +kernel
theorem d_L_function_4 : decode m_L_function.2.1 4 = .ok (.iload_n 1, 1) := by decide +kernel
theorem d_L_function_5 : decode m_L_function.2.1 5 = .ok (.iload_n 2, 1) := by decide +kernel
theorem d_L_function_6 : decode m_L_function.2.1 6 = .ok (.iload_n 3, 1) := by decide +kernel
theorem d_L_function_7 : decode m_L_function.2.1 7 = .ok (.iload 4, 2) := by decide +kernel
theorem d_L_function_9 : decode m_L_function.2.1 9 = .ok (.invokevirtual 34, 3) := by decide +kernel
theorem d_L_function_12 : decode m_L_function.2.1 12 = .ok (.i2l, 1) := by decide +kernel
theorem d_L_function_13 : decode m_L_function.2.1 13 = .ok (.lastore, 1) := by decide +kernel
theorem d_L_function_14 : decode m_L_function.2.1 14 = .ok (.goto 11, 3) := by decide +kernel
theorem d_L_function_17 : decode m_L_function.2.1 17 = .ok (.astore 6, 2) := by decide +kernel
theorem d_L_function_19 : decode m_L_function.2.1 19 = .ok (.iconst 1, 1) := by decide +kernel
theorem d_L_function_20 : decode m_L_function.2.1 20 = .ok (.ireturn, 1) := by decide +kernel
theorem d_L_function_21 : decode m_L_function.2.1 21 = .ok (.astore 6, 2) := by decide +kernel
theorem d_L_function_23 : decode m_L_function.2.1 23 = .ok (.iconst 2, 1) := by decide +kernel
theorem d_L_function_24 : decode m_L_function.2.1 24 = .ok (.ireturn, 1) := by decide +kernel
theorem d_L_function_25 : decode m_L_function.2.1 25 = .ok (.iconst 0, 1) := by decide +kernel
theorem d_L_function_26 : decode m_L_function.2.1 26 = .ok (.ireturn, 1) := by decide +kernel
theorem d_N_function_0 : decode m_N_function.2.1 0 = .ok (.aload_n 0, 1) := by decide +kernel
theorem d_N_function_1 : decode m_N_function.2.1 1 = .ok (.getfield 13, 3) := by decide +kernel
theorem d_N_function_4 : decode m_N_function.2.1 4 = .ok (.invokevirtual 44, 3) := by decide +kernel
theorem d_N_function_7 : decode m_N_function.2.1 7 = .ok (.aload_n 0, 1) := by decide +kernel
theorem d_N_function_8 : decode m_N_function.2.1 8 = .ok (.getfield 13, 3) := by decide +kernel
theorem d_N_function_11 : decode m_N_function.2.1 11 = .ok (.aload_n 0, 1) := by decide +kernel
theorem d_N_function_12 : decode m_N_function.2.1 12 = .ok (.getfield 13, 3) := by decide +kernel
theorem d_N_function_15 : decode m_N_function.2.1 15 = .ok (.iload_n 1, 1) := by decide +kernel
theorem d_N_function_16 : decode m_N_function.2.1 16 = .ok (.iload_n 2, 1) := by decide +kernel
theorem d_N_function_17 : decode m_N_function.2.1 17 = .ok (.iload_n 3, 1) := by decide +kernel
theorem d_N_function_18 : decode m_N_function.2.1 18 = .ok (.iload 4, 2) := by decide +kernel
theorem d_N_function_20 : decode m_N_function.2.1 20 = .ok (.invokevirtual 71, 3) := by decide +kernel
theorem d_N_function_23 : decode m_N_function.2.1 23 = .ok (.invokevirtual 51, 3) := by decide +kernel
theorem d_N_function_26 : decode m_N_function.2.1 26 = .ok (.ireturn, 1) := by decide +kernel
theorem d_D_addFunction_0 : decode m_D_addFunction.2.1 0 = .ok (.aload_n 0, 1) := by decide +kernel
theorem d_D_addFunction_1 : decode m_D_addFunction.2.1 1 = .ok (.iload_n 1, 1) := by decide +kernel
theorem d_D_addFunction_2 : decode m_D_addFunction.2.1 2 = .ok (.invokevirtual 71, 3) := by decide +kernel
theorem d_D_addFunction_5 : decode m_D_addFunction.2.1 5 = .ok (.aload_n 0, 1) := by decide +kernel
theorem d_D_addFunction_6 : decode m_D_addFunction.2.1 6 = .ok (.iload_n 2, 1) := by decide +kernel
theorem d_D_addFunction_7 : decode m_D_addFunction.2.1 7 = .ok (.iload_n 3, 1) := by decide +kernel
theorem d_D_addFunction_8 : decode m_D_addFunction.2.1 8 = .ok (.iload 4, 2) := by decide +kernel
theorem d_D_addFunction_10 : decode m_D_addFunction.2.1 10 = .ok (.invokevirtual 78, 3) := by decide +kernel
theorem d_D_addFunction_13 : decode m_D_addFunction.2.1 13 = .ok (.aload_n 0, 1) := by decide +kernel
theorem d_D_addFunction_14 : decode m_D_addFunction.2.1 14 = .ok (.bipush 8, 2) := by decide +kernel
theorem d_D_addFunction_16 : decode m_D_addFunction.2.1 16 = .ok (.iconst 0, 1) := by decide +kernel
theorem d_D_addFunction_17 : decode m_D_addFunction.2.1 17 = .ok (.iload_n 1, 1) := by decide +kernel
theorem d_D_addFunction_18 : decode m_D_addFunction.2.1 18 = .ok (.iconst (-1), 1) := by decide +kernel
theorem d_D_addFunction_19 : decode m_D_addFunction.2.1 19 = .ok (.iload_n 2, 1) := by decide +kernel
theorem d_D_addFunction_20 : decode m_D_addFunction.2.1 20 = .ok (.iload_n 3, 1) := by decide +kernel
theorem d_D_addFunction_21 : decode m_D_addFunction.2.1 21 = .ok (.iload 4, 2) := by decide +kernel
theorem d_D_addFunction_23 : decode m_D_addFunction.2.1 23 = .ok (.invokevirtual 42, 3) := by decide +kernel
theorem d_D_addFunction_26 : decode m_D_addFunction.2.1 26 = .ok (.ireturn, 1) := by decide +kernel
theorem d_D_needParameters_0 : decode m_D_needParameters.2.1 0 = .ok (.aload_n 0, 1) := by decide +kernel
theorem d_D_needParameters_1 : decode m_D_needParameters.2.1 1 = .ok (.iload_n 1, 1) := by decide +kernel
theorem d_D_needParameters_2 : decode m_D_needParameters.2.1 2 = .ok (.invokevirtual 106, 3) := by decide +kernel
theorem d_D_needParameters_5 : decode m_D_needParameters.2.1 5 = .ok (.ifCond .eq 23, 3) := by decide +kernel
theorem d_D_needParameters_8 : decode m_D_needParameters.2.1 8 = .ok (.aload_n 0, 1) := by decide +kernel
theorem d_D_needParameters_9 : decode m_D_needParameters.2.1 9 = .ok (.iload_n 2, 1) := by decide +kernel
theorem d_D_needParameters_10 : decode m_D_needParameters.2.1 10 = .ok (.invokevirtual 106, 3) := by decide +kernel
theorem d_D_needParameters_13 : decode m_D_needParameters.2.1 13 = .ok (.ifCond .eq 15, 3) := by decide +kernel
theorem d_D_needParameters_16 : decode m_D_needParameters.2.1 16 = .ok (.aload_n 0, 1) := by decide +kernel
theorem d_D_needParameters_17 : decode m_D_needParameters.2.1 17 = .ok (.iload_n 3, 1) := by decide +kernel
theorem d_D_needParameters_18 : decode m_D_needParameters.2.1 18 = .ok (.invokevirtual 106, 3) := by decide +kernel
theorem d_D_needParameters_21 : decode m_D_needParameters.2.1 21 = .ok (.ifCond .eq 7, 3) := by decide +kernel
theorem d_D_needParameters_24 : decode m_D_needParameters.2.1 24 = .ok (.iconst 1, 1) := by decide +kernel
theorem d_D_needParameters_25 : decode m_D_needParameters.2.1 25 = .ok (.goto 4, 3) := by decide +kernel
theorem d_D_needParameters_28 : decode m_D_needParameters.2.1 28 = .ok (.iconst 0, 1) := by decide +kernel
theorem d_D_needParameters_29 : decode m_D_needParameters.2.1 29 = .ok (.istore 4, 2) := by decide +kernel
theorem d_D_needParameters_31 : decode m_D_needParameters.2.1 31 = .ok (.iload 4, 2) := by decide +kernel
theorem d_D_needParameters_33 : decode m_D_needParameters.2.1 33 = .ok (.ifCond .eq 12, 3) := by decide +kernel
theorem d_D_needParameters_36 : decode m_D_needParameters.2.1 36 = .ok (.iload_n 1, 1) := by decide +kernel
theorem d_D_needParameters_37 : decode m_D_needParameters.2.1 37 = .ok (.iload_n 2, 1) := by decide +kernel
theorem d_D_needParameters_38 : decode m_D_needParameters.2.1 38 = .ok (.iload_n 3, 1) := by decide +kernel
theorem d_D_needParameters_39 : decode m_D_needParameters.2.1 39 = .ok (.invokestatic 63, 3) := by decide +kernel
theorem d_D_needParameters_42 : decode m_D_needParameters.2.1 42 = .ok (.ifCond .eq 13, 3) := by decide +kernel
theorem d_D_needParameters_45 : decode m_D_needParameters.2.1 45 = .ok (.new 37, 3) := by decide +kernel
theorem d_D_needParameters_48 : decode m_D_needParameters.2.1 48 = .ok (.dup, 1) := by decide +kernel
theorem d_D_needParameters_49 : decode m_D_needParameters.2.1 49 = .ok (.ldc 109, 2) := by decide +kernel
theorem d_D_needParameters_51 : decode m_D_needParameters.2.1 51 = .ok (.invokespecial 41, 3) := by decide +kernel
theorem d_D_needParameters_54 : decode m_D_needParameters.2.1 54 = .ok (.athrow, 1) := by decide +kernel
theorem d_D_needParameters_55 : decode m_D_needParameters.2.1 55 = .ok (.return_, 1) := by decide +kernel
