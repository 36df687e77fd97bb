/-! decode rows, by program (wip/whole/gen03.py) -/
theorem d_D_isParameterOrNone_0 : decode m_D_isParameterOrNone.2.1 0 = .ok (.aload_n 0, 1) := by decide +kernel
theorem d_D_isParameterOrNone_1 : decode m_D_isParameterOrNone.2.1 1 = .ok (.iload_n 1, 1) := by decide +kernel
theorem d_D_isParameterOrNone_2 : decode m_D_isParameterOrNone.2.1 2 = .ok (.invokevirtual 53, 3) := by decide +kernel
theorem d_D_isParameterOrNone_5 : decode m_D_isParameterOrNone.2.1 5 = .ok (.istore_n 2, 1) := by decide +kernel
theorem d_D_isParameterOrNone_6 : decode m_D_isParameterOrNone.2.1 6 = .ok (.iload_n 2, 1) := by decide +kernel
theorem d_D_isParameterOrNone_7 : decode m_D_isParameterOrNone.2.1 7 = .ok (.ifCond .ne 18, 3) := by decide +kernel
theorem d_D_isParameterOrNone_10 : decode m_D_isParameterOrNone.2.1 10 = .ok (.aload_n 0, 1) := by decide +kernel
theorem d_D_isParameterOrNone_11 : decode m_D_isParameterOrNone.2.1 11 = .ok (.iload_n 1, 1) := by decide +kernel
theorem d_D_isParameterOrNone_12 : decode m_D_isParameterOrNone.2.1 12 = .ok (.iconst 1, 1) := by decide +kernel
theorem d_D_isParameterOrNone_13 : decode m_D_isParameterOrNone.2.1 13 = .ok (.invokevirtual 82, 3) := by decide +kernel
theorem d_D_isParameterOrNone_16 : decode m_D_isParameterOrNone.2.1 16 = .ok (.ifCond .eq 7, 3) := by decide +kernel
theorem d_D_isParameterOrNone_19 : decode m_D_isParameterOrNone.2.1 19 = .ok (.iconst 1, 1) := by decide +kernel
theorem d_D_isParameterOrNone_20 : decode m_D_isParameterOrNone.2.1 20 = .ok (.goto 4, 3) := by decide +kernel
theorem d_D_isParameterOrNone_23 : decode m_D_isParameterOrNone.2.1 23 = .ok (.iconst 0, 1) := by decide +kernel
theorem d_D_isParameterOrNone_24 : decode m_D_isParameterOrNone.2.1 24 = .ok (.ireturn, 1) := by decide +kernel
theorem d_D_isParameterOrNone_25 : decode m_D_isParameterOrNone.2.1 25 = .ok (.iload_n 1, 1) := by decide +kernel
theorem d_D_isParameterOrNone_26 : decode m_D_isParameterOrNone.2.1 26 = .ok (.iconst (-1), 1) := by decide +kernel
theorem d_D_isParameterOrNone_27 : decode m_D_isParameterOrNone.2.1 27 = .ok (.if_icmp .eq 13, 3) := by decide +kernel
theorem d_D_isParameterOrNone_30 : decode m_D_isParameterOrNone.2.1 30 = .ok (.iload_n 2, 1) := by decide +kernel
theorem d_D_isParameterOrNone_31 : decode m_D_isParameterOrNone.2.1 31 = .ok (.ifCond .le 13, 3) := by decide +kernel
theorem d_D_isParameterOrNone_34 : decode m_D_isParameterOrNone.2.1 34 = .ok (.iload_n 2, 1) := by decide +kernel
theorem d_D_isParameterOrNone_35 : decode m_D_isParameterOrNone.2.1 35 = .ok (.bipush 8, 2) := by decide +kernel
theorem d_D_isParameterOrNone_37 : decode m_D_isParameterOrNone.2.1 37 = .ok (.if_icmp .gt 7, 3) := by decide +kernel
theorem d_D_isParameterOrNone_40 : decode m_D_isParameterOrNone.2.1 40 = .ok (.iconst 1, 1) := by decide +kernel
theorem d_D_isParameterOrNone_41 : decode m_D_isParameterOrNone.2.1 41 = .ok (.goto 4, 3) := by decide +kernel
theorem d_D_isParameterOrNone_44 : decode m_D_isParameterOrNone.2.1 44 = .ok (.iconst 0, 1) := by decide +kernel
theorem d_D_isParameterOrNone_45 : decode m_D_isParameterOrNone.2.1 45 = .ok (.ireturn, 1) := by decide +kernel
theorem d_L_literal_0 : decode m_L_literal.2.1 0 = .ok (.aload_n 3, 1) := by decide +kernel
theorem d_L_literal_1 : decode m_L_literal.2.1 1 = .ok (.iconst 0, 1) := by decide +kernel
theorem d_L_literal_2 : decode m_L_literal.2.1 2 = .ok (.aload_n 0, 1) := by decide +kernel
theorem d_L_literal_3 : decode m_L_literal.2.1 3 = .ok (.iload_n 1, 1) := by decide +kernel
theorem d_L_literal_4 : decode m_L_literal.2.1 4 = .ok (.iload_n 2, 1) := by decide +kernel
theorem d_L_literal_5 : decode m_L_literal.2.1 5 = .ok (.invokevirtual 37, 3) := by decide +kernel
theorem d_L_literal_8 : decode m_L_literal.2.1 8 = .ok (.i2l, 1) := by decide +kernel
theorem d_L_literal_9 : decode m_L_literal.2.1 9 = .ok (.lastore, 1) := by decide +kernel
theorem d_L_literal_10 : decode m_L_literal.2.1 10 = .ok (.goto 11, 3) := by decide +kernel
theorem d_L_literal_13 : decode m_L_literal.2.1 13 = .ok (.astore 4, 2) := by decide +kernel
theorem d_L_literal_15 : decode m_L_literal.2.1 15 = .ok (.iconst 1, 1) := by decide +kernel
theorem d_L_literal_16 : decode m_L_literal.2.1 16 = .ok (.ireturn, 1) := by decide +kernel
theorem d_L_literal_17 : decode m_L_literal.2.1 17 = .ok (.astore 4, 2) := by decide +kernel
theorem d_L_literal_19 : decode m_L_literal.2.1 19 = .ok (.iconst 2, 1) := by decide +kernel
theorem d_L_literal_20 : decode m_L_literal.2.1 20 = .ok (.ireturn, 1) := by decide +kernel
theorem d_L_literal_21 : decode m_L_literal.2.1 21 = .ok (.iconst 0, 1) := by decide +kernel
theorem d_L_literal_22 : decode m_L_literal.2.1 22 = .ok (.ireturn, 1) := by decide +kernel
theorem d_N_literal_0 : decode m_N_literal.2.1 0 = .ok (.aload_n 0, 1) := by decide +kernel
theorem d_N_literal_1 : decode m_N_literal.2.1 1 = .ok (.getfield 13, 3) := by decide +kernel
theorem d_N_literal_4 : decode m_N_literal.2.1 4 = .ok (.invokevirtual 44, 3) := by decide +kernel
theorem d_N_literal_7 : decode m_N_literal.2.1 7 = .ok (.aload_n 0, 1) := by decide +kernel
theorem d_N_literal_8 : decode m_N_literal.2.1 8 = .ok (.getfield 13, 3) := by decide +kernel
theorem d_N_literal_11 : decode m_N_literal.2.1 11 = .ok (.aload_n 0, 1) := by decide +kernel
theorem d_N_literal_12 : decode m_N_literal.2.1 12 = .ok (.getfield 13, 3) := by decide +kernel
theorem d_N_literal_15 : decode m_N_literal.2.1 15 = .ok (.iload_n 1, 1) := by decide +kernel
theorem d_N_literal_16 : decode m_N_literal.2.1 16 = .ok (.iload_n 2, 1) := by decide +kernel
theorem d_N_literal_17 : decode m_N_literal.2.1 17 = .ok (.invokevirtual 74, 3) := by decide +kernel
theorem d_N_literal_20 : decode m_N_literal.2.1 20 = .ok (.invokevirtual 51, 3) := by decide +kernel
theorem d_N_literal_23 : decode m_N_literal.2.1 23 = .ok (.ireturn, 1) := by decide +kernel
theorem d_D_addLiteral_0 : decode m_D_addLiteral.2.1 0 = .ok (.aload_n 0, 1) := by decide +kernel
theorem d_D_addLiteral_1 : decode m_D_addLiteral.2.1 1 = .ok (.iload_n 1, 1) := by decide +kernel
theorem d_D_addLiteral_2 : decode m_D_addLiteral.2.1 2 = .ok (.invokevirtual 53, 3) := by decide +kernel
theorem d_D_addLiteral_5 : decode m_D_addLiteral.2.1 5 = .ok (.ifCond .ne 12, 3) := by decide +kernel
theorem d_D_addLiteral_8 : decode m_D_addLiteral.2.1 8 = .ok (.aload_n 0, 1) := by decide +kernel
theorem d_D_addLiteral_9 : decode m_D_addLiteral.2.1 9 = .ok (.iload_n 1, 1) := by decide +kernel
theorem d_D_addLiteral_10 : decode m_D_addLiteral.2.1 10 = .ok (.iconst 1, 1) := by decide +kernel
theorem d_D_addLiteral_11 : decode m_D_addLiteral.2.1 11 = .ok (.invokevirtual 82, 3) := by decide +kernel
theorem d_D_addLiteral_14 : decode m_D_addLiteral.2.1 14 = .ok (.ifCond .ne 13, 3) := by decide +kernel
theorem d_D_addLiteral_17 : decode m_D_addLiteral.2.1 17 = .ok (.new 37, 3) := by decide +kernel
theorem d_D_addLiteral_20 : decode m_D_addLiteral.2.1 20 = .ok (.dup, 1) := by decide +kernel
theorem d_D_addLiteral_21 : decode m_D_addLiteral.2.1 21 = .ok (.ldc 86, 2) := by decide +kernel
theorem d_D_addLiteral_23 : decode m_D_addLiteral.2.1 23 = .ok (.invokespecial 41, 3) := by decide +kernel
theorem d_D_addLiteral_26 : decode m_D_addLiteral.2.1 26 = .ok (.athrow, 1) := by decide +kernel
theorem d_D_addLiteral_27 : decode m_D_addLiteral.2.1 27 = .ok (.iload_n 2, 1) := by decide +kernel
theorem d_D_addLiteral_28 : decode m_D_addLiteral.2.1 28 = .ok (.ldc 88, 2) := by decide +kernel
theorem d_D_addLiteral_30 : decode m_D_addLiteral.2.1 30 = .ok (.if_icmp .lt 9, 3) := by decide +kernel
theorem d_D_addLiteral_33 : decode m_D_addLiteral.2.1 33 = .ok (.iload_n 2, 1) := by decide +kernel
theorem d_D_addLiteral_34 : decode m_D_addLiteral.2.1 34 = .ok (.ldc 89, 2) := by decide +kernel
theorem d_D_addLiteral_36 : decode m_D_addLiteral.2.1 36 = .ok (.if_icmp .le 13, 3) := by decide +kernel
theorem d_D_addLiteral_39 : decode m_D_addLiteral.2.1 39 = .ok (.new 37, 3) := by decide +kernel
theorem d_D_addLiteral_42 : decode m_D_addLiteral.2.1 42 = .ok (.dup, 1) := by decide +kernel
theorem d_D_addLiteral_43 : decode m_D_addLiteral.2.1 43 = .ok (.ldc 90, 2) := by decide +kernel
theorem d_D_addLiteral_45 : decode m_D_addLiteral.2.1 45 = .ok (.invokespecial 41, 3) := by decide +kernel
theorem d_D_addLiteral_48 : decode m_D_addLiteral.2.1 48 = .ok (.athrow, 1) := by decide +kernel
theorem d_D_addLiteral_49 : decode m_D_addLiteral.2.1 49 = .ok (.aload_n 0, 1) := by decide +kernel
theorem d_D_addLiteral_50 : decode m_D_addLiteral.2.1 50 = .ok (.bipush 9, 2) := by decide +kernel
theorem d_D_addLiteral_52 : decode m_D_addLiteral.2.1 52 = .ok (.iload_n 2, 1) := by decide +kernel
theorem d_D_addLiteral_53 : decode m_D_addLiteral.2.1 53 = .ok (.iload_n 1, 1) := by decide +kernel
theorem d_D_addLiteral_54 : decode m_D_addLiteral.2.1 54 = .ok (.iconst (-1), 1) := by decide +kernel
theorem d_D_addLiteral_55 : decode m_D_addLiteral.2.1 55 = .ok (.iconst (-1), 1) := by decide +kernel
theorem d_D_addLiteral_56 : decode m_D_addLiteral.2.1 56 = .ok (.iconst (-1), 1) := by decide +kernel
theorem d_D_addLiteral_57 : decode m_D_addLiteral.2.1 57 = .ok (.iconst (-1), 1) := by decide +kernel
theorem d_D_addLiteral_58 : decode m_D_addLiteral.2.1 58 = .ok (.invokevirtual 42, 3) := by decide +kernel
theorem d_D_addLiteral_61 : decode m_D_addLiteral.2.1 61 = .ok (.ireturn, 1) := by decide +kernel
theorem d_L_entity_0 : decode m_L_entity.2.1 0 = .ok (.aload 6, 2) := by decide +kernel
theorem d_L_entity_2 : decode m_L_entity.2.1 2 = .ok (.iconst 0, 1) := by decide +kernel
theorem d_L_entity_3 : decode m_L_entity.2.1 3 = .ok (.aload_n 0, 1) := by decide +kernel
theorem d_L_entity_4 : decode m_L_entity.2.1 4 = .ok (.iload_n 1, 1) := by decide +kernel
theorem d_L_entity_5 : decode m_L_entity.2.1 5 = .ok (.iload_n 2, 1) := by decide +kernel
theorem d_L_entity_6 : decode m_L_entity.2.1 6 = .ok (.iload_n 3, 1) := by decide +kernel
theorem d_L_entity_7 : decode m_L_entity.2.1 7 = .ok (.iload 4, 2) := by decide +kernel
theorem d_L_entity_9 : decode m_L_entity.2.1 9 = .ok (.iload 5, 2) := by decide +kernel
theorem d_L_entity_11 : decode m_L_entity.2.1 11 = .ok (.invokevirtual 40, 3) := by decide +kernel
theorem d_L_entity_14 : decode m_L_entity.2.1 14 = .ok (.i2l, 1) := by decide +kernel
theorem d_L_entity_15 : decode m_L_entity.2.1 15 = .ok (.lastore, 1) := by decide +kernel
theorem d_L_entity_16 : decode m_L_entity.2.1 16 = .ok (.goto 11, 3) := by decide +kernel
theorem d_L_entity_19 : decode m_L_entity.2.1 19 = .ok (.astore 7, 2) := by decide +kernel
theorem d_L_entity_21 : decode m_L_entity.2.1 21 = .ok (.iconst 1, 1) := by decide +kernel
theorem d_L_entity_22 : decode m_L_entity.2.1 22 = .ok (.ireturn, 1) := by decide +kernel
theorem d_L_entity_23 : decode m_L_entity.2.1 23 = .ok (.astore 7, 2) := by decide +kernel
theorem d_L_entity_25 : decode m_L_entity.2.1 25 = .ok (.iconst 2, 1) := by decide +kernel
theorem d_L_entity_26 : decode m_L_entity.2.1 26 = .ok (.ireturn, 1) := by decide +kernel
theorem d_L_entity_27 : decode m_L_entity.2.1 27 = .ok (.iconst 0, 1) := by decide +kernel
theorem d_L_entity_28 : decode m_L_entity.2.1 28 = .ok (.ireturn, 1) := by decide +kernel
theorem d_N_entity_0 : decode m_N_entity.2.1 0 = .ok (.aload_n 0, 1) := by decide +kernel
theorem d_N_entity_1 : decode m_N_entity.2.1 1 = .ok (.getfield 13, 3) := by decide +kernel
theorem d_N_entity_4 : decode m_N_entity.2.1 4 = .ok (.invokevirtual 44, 3) := by decide +kernel
theorem d_N_entity_7 : decode m_N_entity.2.1 7 = .ok (.aload_n 0, 1) := by decide +kernel
theorem d_N_entity_8 : decode m_N_entity.2.1 8 = .ok (.getfield 13, 3) := by decide +kernel
theorem d_N_entity_11 : decode m_N_entity.2.1 11 = .ok (.aload_n 0, 1) := by decide +kernel
theorem d_N_entity_12 : decode m_N_entity.2.1 12 = .ok (.getfield 13, 3) := by decide +kernel
theorem d_N_entity_15 : decode m_N_entity.2.1 15 = .ok (.iload_n 1, 1) := by decide +kernel
theorem d_N_entity_16 : decode m_N_entity.2.1 16 = .ok (.iload_n 2, 1) := by decide +kernel
theorem d_N_entity_17 : decode m_N_entity.2.1 17 = .ok (.iload_n 3, 1) := by decide +kernel
theorem d_N_entity_18 : decode m_N_entity.2.1 18 = .ok (.iload 4, 2) := by decide +kernel
theorem d_N_entity_20 : decode m_N_entity.2.1 20 = .ok (.iload 5, 2) := by decide +kernel
theorem d_N_entity_22 : decode m_N_entity.2.1 22 = .ok (.invokevirtual 77, 3) := by decide +kernel
theorem d_N_entity_25 : decode m_N_entity.2.1 25 = .ok (.invokevirtual 51, 3) := by decide +kernel
theorem d_N_entity_28 : decode m_N_entity.2.1 28 = .ok (.ireturn, 1) := by decide +kernel
theorem d_D_addEntity_0 : decode m_D_addEntity.2.1 0 = .ok (.aload_n 0, 1) := by decide +kernel
theorem d_D_addEntity_1 : decode m_D_addEntity.2.1 1 = .ok (.iload_n 1, 1) := by decide +kernel
theorem d_D_addEntity_2 : decode m_D_addEntity.2.1 2 = .ok (.invokevirtual 50, 3) := by decide +kernel
theorem d_D_addEntity_5 : decode m_D_addEntity.2.1 5 = .ok (.aload_n 0, 1) := by decide +kernel
theorem d_D_addEntity_6 : decode m_D_addEntity.2.1 6 = .ok (.iload_n 1, 1) := by decide +kernel
theorem d_D_addEntity_7 : decode m_D_addEntity.2.1 7 = .ok (.invokevirtual 53, 3) := by decide +kernel
theorem d_D_addEntity_10 : decode m_D_addEntity.2.1 10 = .ok (.iconst 3, 1) := by decide +kernel
theorem d_D_addEntity_11 : decode m_D_addEntity.2.1 11 = .ok (.if_icmp .ne 11, 3) := by decide +kernel
theorem d_D_addEntity_14 : decode m_D_addEntity.2.1 14 = .ok (.aload_n 0, 1) := by decide +kernel
theorem d_D_addEntity_15 : decode m_D_addEntity.2.1 15 = .ok (.iload_n 2, 1) := by decide +kernel
theorem d_D_addEntity_16 : decode m_D_addEntity.2.1 16 = .ok (.invokevirtual 71, 3) := by decide +kernel
theorem d_D_addEntity_19 : decode m_D_addEntity.2.1 19 = .ok (.goto 18, 3) := by decide +kernel
theorem d_D_addEntity_22 : decode m_D_addEntity.2.1 22 = .ok (.iload_n 2, 1) := by decide +kernel
theorem d_D_addEntity_23 : decode m_D_addEntity.2.1 23 = .ok (.iconst (-1), 1) := by decide +kernel
theorem d_D_addEntity_24 : decode m_D_addEntity.2.1 24 = .ok (.if_icmp .eq 13, 3) := by decide +kernel
theorem d_D_addEntity_27 : decode m_D_addEntity.2.1 27 = .ok (.new 37, 3) := by decide +kernel
theorem d_D_addEntity_30 : decode m_D_addEntity.2.1 30 = .ok (.dup, 1) := by decide +kernel
theorem d_D_addEntity_31 : decode m_D_addEntity.2.1 31 = .ok (.ldc 92, 2) := by decide +kernel
theorem d_D_addEntity_33 : decode m_D_addEntity.2.1 33 = .ok (.invokespecial 41, 3) := by decide +kernel
theorem d_D_addEntity_36 : decode m_D_addEntity.2.1 36 = .ok (.athrow, 1) := by decide +kernel
theorem d_D_addEntity_37 : decode m_D_addEntity.2.1 37 = .ok (.aload_n 0, 1) := by decide +kernel
theorem d_D_addEntity_38 : decode m_D_addEntity.2.1 38 = .ok (.iload_n 3, 1) := by decide +kernel
theorem d_D_addEntity_39 : decode m_D_addEntity.2.1 39 = .ok (.iload 4, 2) := by decide +kernel
theorem d_D_addEntity_41 : decode m_D_addEntity.2.1 41 = .ok (.iload 5, 2) := by decide +kernel
theorem d_D_addEntity_43 : decode m_D_addEntity.2.1 43 = .ok (.invokevirtual 78, 3) := by decide +kernel
theorem d_D_addEntity_46 : decode m_D_addEntity.2.1 46 = .ok (.aload_n 0, 1) := by decide +kernel
theorem d_D_addEntity_47 : decode m_D_addEntity.2.1 47 = .ok (.bipush 10, 2) := by decide +kernel
theorem d_D_addEntity_49 : decode m_D_addEntity.2.1 49 = .ok (.iconst 0, 1) := by decide +kernel
theorem d_D_addEntity_50 : decode m_D_addEntity.2.1 50 = .ok (.iload_n 1, 1) := by decide +kernel
theorem d_D_addEntity_51 : decode m_D_addEntity.2.1 51 = .ok (.iload_n 2, 1) := by decide +kernel
theorem d_D_addEntity_52 : decode m_D_addEntity.2.1 52 = .ok (.iload_n 3, 1) := by decide +kernel
theorem d_D_addEntity_53 : decode m_D_addEntity.2.1 53 = .ok (.iload 4, 2) := by decide +kernel
theorem d_D_addEntity_55 : decode m_D_addEntity.2.1 55 = .ok (.iload 5, 2) := by decide +kernel
theorem d_D_addEntity_57 : decode m_D_addEntity.2.1 57 = .ok (.invokevirtual 42, 3) := by decide +kernel
theorem d_D_addEntity_60 : decode m_D_addEntity.2.1 60 = .ok (.ireturn, 1) := by decide +kernel
theorem d_L_write_0 : decode m_L_write.2.1 0 = .ok (.aload_n 2, 1) := by decide +kernel
theorem d_L_write_1 : decode m_L_write.2.1 1 = .ok (.iconst 0, 1) := by decide +kernel
theorem d_L_write_2 : decode m_L_write.2.1 2 = .ok (.aload_n 0, 1) := by decide +kernel
theorem d_L_write_3 : decode m_L_write.2.1 3 = .ok (.iload_n 1, 1) := by decide +kernel
theorem d_L_write_4 : decode m_L_write.2.1 4 = .ok (.invokevirtual 44, 3) := by decide +kernel
theorem d_L_write_7 : decode m_L_write.2.1 7 = .ok (.i2l, 1) := by decide +kernel
theorem d_L_write_8 : decode m_L_write.2.1 8 = .ok (.lastore, 1) := by decide +kernel
theorem d_L_write_9 : decode m_L_write.2.1 9 = .ok (.goto 9, 3) := by decide +kernel
theorem d_L_write_12 : decode m_L_write.2.1 12 = .ok (.astore_n 3, 1) := by decide +kernel
theorem d_L_write_13 : decode m_L_write.2.1 13 = .ok (.iconst 1, 1) := by decide +kernel
theorem d_L_write_14 : decode m_L_write.2.1 14 = .ok (.ireturn, 1) := by decide +kernel
theorem d_L_write_15 : decode m_L_write.2.1 15 = .ok (.astore_n 3, 1) := by decide +kernel
theorem d_L_write_16 : decode m_L_write.2.1 16 = .ok (.iconst 2, 1) := by decide +kernel
theorem d_L_write_17 : decode m_L_write.2.1 17 = .ok (.ireturn, 1) := by decide +kernel
theorem d_L_write_18 : decode m_L_write.2.1 18 = .ok (.iconst 0, 1) := by decide +kernel
theorem d_L_write_19 : decode m_L_write.2.1 19 = .ok (.ireturn, 1) := by decide +kernel
theorem d_N_write_0 : decode m_N_write.2.1 0 = .ok (.aload_n 0, 1) := by decide +kernel
theorem d_N_write_1 : decode m_N_write.2.1 1 = .ok (.getfield 13, 3) := by decide +kernel
theorem d_N_write_4 : decode m_N_write.2.1 4 = .ok (.invokevirtual 44, 3) := by decide +kernel
theorem d_N_write_7 : decode m_N_write.2.1 7 = .ok (.aload_n 0, 1) := by decide +kernel
theorem d_N_write_8 : decode m_N_write.2.1 8 = .ok (.getfield 13, 3) := by decide +kernel
theorem d_N_write_11 : decode m_N_write.2.1 11 = .ok (.iload_n 1, 1) := by decide +kernel
theorem d_N_write_12 : decode m_N_write.2.1 12 = .ok (.invokevirtual 84, 3) := by decide +kernel
theorem d_N_write_15 : decode m_N_write.2.1 15 = .ok (.bipush 10, 2) := by decide +kernel
theorem d_N_write_17 : decode m_N_write.2.1 17 = .ok (.if_icmp .eq 13, 3) := by decide +kernel
theorem d_N_write_20 : decode m_N_write.2.1 20 = .ok (.new 87, 3) := by decide +kernel
theorem d_N_write_23 : decode m_N_write.2.1 23 = .ok (.dup, 1) := by decide +kernel
theorem d_N_write_24 : decode m_N_write.2.1 24 = .ok (.ldc 89, 2) := by decide +kernel
theorem d_N_write_26 : decode m_N_write.2.1 26 = .ok (.invokespecial 91, 3) := by decide +kernel
theorem d_N_write_29 : decode m_N_write.2.1 29 = .ok (.athrow, 1) := by decide +kernel
theorem d_N_write_30 : decode m_N_write.2.1 30 = .ok (.aload_n 0, 1) := by decide +kernel
theorem d_N_write_31 : decode m_N_write.2.1 31 = .ok (.getfield 31, 3) := by decide +kernel
theorem d_N_write_34 : decode m_N_write.2.1 34 = .ok (.iload_n 1, 1) := by decide +kernel
theorem d_N_write_35 : decode m_N_write.2.1 35 = .ok (.invokevirtual 94, 3) := by decide +kernel
theorem d_N_write_38 : decode m_N_write.2.1 38 = .ok (.aload_n 0, 1) := by decide +kernel
theorem d_N_write_39 : decode m_N_write.2.1 39 = .ok (.getfield 19, 3) := by decide +kernel
theorem d_N_write_42 : decode m_N_write.2.1 42 = .ok (.aload_n 0, 1) := by decide +kernel
theorem d_N_write_43 : decode m_N_write.2.1 43 = .ok (.getfield 31, 3) := by decide +kernel
theorem d_N_write_46 : decode m_N_write.2.1 46 = .ok (.getfield 98, 3) := by decide +kernel
theorem d_N_write_49 : decode m_N_write.2.1 49 = .ok (.invokevirtual 101, 3) := by decide +kernel
theorem d_N_write_52 : decode m_N_write.2.1 52 = .ok (.aload_n 0, 1) := by decide +kernel
theorem d_N_write_53 : decode m_N_write.2.1 53 = .ok (.getfield 23, 3) := by decide +kernel
theorem d_N_write_56 : decode m_N_write.2.1 56 = .ok (.aload_n 0, 1) := by decide +kernel
theorem d_N_write_57 : decode m_N_write.2.1 57 = .ok (.getfield 31, 3) := by decide +kernel
theorem d_N_write_60 : decode m_N_write.2.1 60 = .ok (.getfield 105, 3) := by decide +kernel
theorem d_N_write_63 : decode m_N_write.2.1 63 = .ok (.invokevirtual 101, 3) := by decide +kernel
theorem d_N_write_66 : decode m_N_write.2.1 66 = .ok (.aload_n 0, 1) := by decide +kernel
theorem d_N_write_67 : decode m_N_write.2.1 67 = .ok (.getfield 19, 3) := by decide +kernel
theorem d_N_write_70 : decode m_N_write.2.1 70 = .ok (.invokevirtual 108, 3) := by decide +kernel
theorem d_N_write_73 : decode m_N_write.2.1 73 = .ok (.ireturn, 1) := by decide +kernel
theorem d_P_putEntity_0 : decode m_P_putEntity.2.1 0 = .ok (.aload_n 0, 1) := by decide +kernel
theorem d_P_putEntity_1 : decode m_P_putEntity.2.1 1 = .ok (.getfield 12, 3) := by decide +kernel
theorem d_P_putEntity_4 : decode m_P_putEntity.2.1 4 = .ok (.iconst 0, 1) := by decide +kernel
theorem d_P_putEntity_5 : decode m_P_putEntity.2.1 5 = .ok (.invokevirtual 25, 3) := by decide +kernel
theorem d_P_putEntity_8 : decode m_P_putEntity.2.1 8 = .ok (.aload_n 0, 1) := by decide +kernel
theorem d_P_putEntity_9 : decode m_P_putEntity.2.1 9 = .ok (.getfield 18, 3) := by decide +kernel
theorem d_P_putEntity_12 : decode m_P_putEntity.2.1 12 = .ok (.iconst 0, 1) := by decide +kernel
theorem d_P_putEntity_13 : decode m_P_putEntity.2.1 13 = .ok (.invokevirtual 25, 3) := by decide +kernel
theorem d_P_putEntity_16 : decode m_P_putEntity.2.1 16 = .ok (.aload_n 0, 1) := by decide +kernel
theorem d_P_putEntity_17 : decode m_P_putEntity.2.1 17 = .ok (.bipush 95, 2) := by decide +kernel
theorem d_P_putEntity_19 : decode m_P_putEntity.2.1 19 = .ok (.invokevirtual 29, 3) := by decide +kernel
theorem d_P_putEntity_22 : decode m_P_putEntity.2.1 22 = .ok (.aload_n 0, 1) := by decide +kernel
theorem d_P_putEntity_23 : decode m_P_putEntity.2.1 23 = .ok (.bipush 90, 2) := by decide +kernel
theorem d_P_putEntity_25 : decode m_P_putEntity.2.1 25 = .ok (.invokevirtual 29, 3) := by decide +kernel
theorem d_P_putEntity_28 : decode m_P_putEntity.2.1 28 = .ok (.aload_n 0, 1) := by decide +kernel
theorem d_P_putEntity_29 : decode m_P_putEntity.2.1 29 = .ok (.aload_n 0, 1) := by decide +kernel
theorem d_P_putEntity_30 : decode m_P_putEntity.2.1 30 = .ok (.getfield 21, 3) := by decide +kernel
theorem d_P_putEntity_33 : decode m_P_putEntity.2.1 33 = .ok (.iload_n 1, 1) := by decide +kernel
theorem d_P_putEntity_34 : decode m_P_putEntity.2.1 34 = .ok (.iconst 2, 1) := by decide +kernel
theorem d_P_putEntity_35 : decode m_P_putEntity.2.1 35 = .ok (.invokevirtual 32, 3) := by decide +kernel
theorem d_P_putEntity_38 : decode m_P_putEntity.2.1 38 = .ok (.iconst 1, 1) := by decide +kernel
theorem d_P_putEntity_39 : decode m_P_putEntity.2.1 39 = .ok (.invokevirtual 38, 3) := by decide +kernel
theorem d_P_putEntity_42 : decode m_P_putEntity.2.1 42 = .ok (.aload_n 0, 1) := by decide +kernel
theorem d_P_putEntity_43 : decode m_P_putEntity.2.1 43 = .ok (.getfield 21, 3) := by decide +kernel
theorem d_P_putEntity_46 : decode m_P_putEntity.2.1 46 = .ok (.iload_n 1, 1) := by decide +kernel
theorem d_P_putEntity_47 : decode m_P_putEntity.2.1 47 = .ok (.iconst 3, 1) := by decide +kernel
theorem d_P_putEntity_48 : decode m_P_putEntity.2.1 48 = .ok (.invokevirtual 32, 3) := by decide +kernel
theorem d_P_putEntity_51 : decode m_P_putEntity.2.1 51 = .ok (.istore_n 2, 1) := by decide +kernel
theorem d_P_putEntity_52 : decode m_P_putEntity.2.1 52 = .ok (.iload_n 2, 1) := by decide +kernel
theorem d_P_putEntity_53 : decode m_P_putEntity.2.1 53 = .ok (.iconst (-1), 1) := by decide +kernel
theorem d_P_putEntity_54 : decode m_P_putEntity.2.1 54 = .ok (.if_icmp .eq 9, 3) := by decide +kernel
theorem d_P_putEntity_57 : decode m_P_putEntity.2.1 57 = .ok (.aload_n 0, 1) := by decide +kernel
theorem d_P_putEntity_58 : decode m_P_putEntity.2.1 58 = .ok (.iload_n 2, 1) := by decide +kernel
theorem d_P_putEntity_59 : decode m_P_putEntity.2.1 59 = .ok (.iconst 1, 1) := by decide +kernel
theorem d_P_putEntity_60 : decode m_P_putEntity.2.1 60 = .ok (.invokevirtual 42, 3) := by decide +kernel
theorem d_P_putEntity_63 : decode m_P_putEntity.2.1 63 = .ok (.aload_n 0, 1) := by decide +kernel
theorem d_P_putEntity_64 : decode m_P_putEntity.2.1 64 = .ok (.iload_n 1, 1) := by decide +kernel
theorem d_P_putEntity_65 : decode m_P_putEntity.2.1 65 = .ok (.iconst 1, 1) := by decide +kernel
theorem d_P_putEntity_66 : decode m_P_putEntity.2.1 66 = .ok (.invokevirtual 45, 3) := by decide +kernel
theorem d_P_putEntity_69 : decode m_P_putEntity.2.1 69 = .ok (.return_, 1) := by decide +kernel
theorem d_P_put_0 : decode m_P_put.2.1 0 = .ok (.aload_n 0, 1) := by decide +kernel
theorem d_P_put_1 : decode m_P_put.2.1 1 = .ok (.getfield 12, 3) := by decide +kernel
theorem d_P_put_4 : decode m_P_put.2.1 4 = .ok (.iload_n 1, 1) := by decide +kernel
theorem d_P_put_5 : decode m_P_put.2.1 5 = .ok (.invokevirtual 48, 3) := by decide +kernel
theorem d_P_put_8 : decode m_P_put.2.1 8 = .ok (.ifCond .ne 13, 3) := by decide +kernel
theorem d_P_put_11 : decode m_P_put.2.1 11 = .ok (.new 52, 3) := by decide +kernel
theorem d_P_put_14 : decode m_P_put.2.1 14 = .ok (.dup, 1) := by decide +kernel
theorem d_P_put_15 : decode m_P_put.2.1 15 = .ok (.ldc 54, 2) := by decide +kernel
theorem d_P_put_17 : decode m_P_put.2.1 17 = .ok (.invokespecial 56, 3) := by decide +kernel
theorem d_P_put_20 : decode m_P_put.2.1 20 = .ok (.athrow, 1) := by decide +kernel
theorem d_P_put_21 : decode m_P_put.2.1 21 = .ok (.return_, 1) := by decide +kernel
theorem d_P_putUntold_0 : decode m_P_putUntold.2.1 0 = .ok (.iload_n 2, 1) := by decide +kernel
theorem d_P_putUntold_1 : decode m_P_putUntold.2.1 1 = .ok (.invokestatic 69, 3) := by decide +kernel
theorem d_P_putUntold_4 : decode m_P_putUntold.2.1 4 = .ok (.aload_n 0, 1) := by decide +kernel
theorem d_P_putUntold_5 : decode m_P_putUntold.2.1 5 = .ok (.getfield 21, 3) := by decide +kernel
theorem d_P_putUntold_8 : decode m_P_putUntold.2.1 8 = .ok (.iload_n 1, 1) := by decide +kernel
theorem d_P_putUntold_9 : decode m_P_putUntold.2.1 9 = .ok (.iconst 2, 1) := by decide +kernel
theorem d_P_putUntold_10 : decode m_P_putUntold.2.1 10 = .ok (.invokevirtual 32, 3) := by decide +kernel
theorem d_P_putUntold_13 : decode m_P_putUntold.2.1 13 = .ok (.istore_n 3, 1) := by decide +kernel
theorem d_P_putUntold_14 : decode m_P_putUntold.2.1 14 = .ok (.aload_n 0, 1) := by decide +kernel
theorem d_P_putUntold_15 : decode m_P_putUntold.2.1 15 = .ok (.getfield 21, 3) := by decide +kernel
theorem d_P_putUntold_18 : decode m_P_putUntold.2.1 18 = .ok (.iload_n 1, 1) := by decide +kernel
theorem d_P_putUntold_19 : decode m_P_putUntold.2.1 19 = .ok (.invokevirtual 59, 3) := by decide +kernel
theorem d_P_putUntold_22 : decode m_P_putUntold.2.1 22 = .ok (.tableswitch 169 2 8 #[42, 70, 79, 79, 79, 102, 138], 42) := by decide +kernel
theorem d_P_putUntold_64 : decode m_P_putUntold.2.1 64 = .ok (.aload_n 0, 1) := by decide +kernel
theorem d_P_putUntold_65 : decode m_P_putUntold.2.1 65 = .ok (.bipush 78, 2) := by decide +kernel
theorem d_P_putUntold_67 : decode m_P_putUntold.2.1 67 = .ok (.invokevirtual 29, 3) := by decide +kernel
theorem d_P_putUntold_70 : decode m_P_putUntold.2.1 70 = .ok (.aload_n 0, 1) := by decide +kernel
theorem d_P_putUntold_71 : decode m_P_putUntold.2.1 71 = .ok (.iload_n 3, 1) := by decide +kernel
theorem d_P_putUntold_72 : decode m_P_putUntold.2.1 72 = .ok (.iload_n 2, 1) := by decide +kernel
theorem d_P_putUntold_73 : decode m_P_putUntold.2.1 73 = .ok (.iconst 1, 1) := by decide +kernel
theorem d_P_putUntold_74 : decode m_P_putUntold.2.1 74 = .ok (.iadd, 1) := by decide +kernel
theorem d_P_putUntold_75 : decode m_P_putUntold.2.1 75 = .ok (.invokevirtual 72, 3) := by decide +kernel
theorem d_P_putUntold_78 : decode m_P_putUntold.2.1 78 = .ok (.aload_n 0, 1) := by decide +kernel
theorem d_P_putUntold_79 : decode m_P_putUntold.2.1 79 = .ok (.iload_n 1, 1) := by decide +kernel
theorem d_P_putUntold_80 : decode m_P_putUntold.2.1 80 = .ok (.invokevirtual 75, 3) := by decide +kernel
theorem d_P_putUntold_83 : decode m_P_putUntold.2.1 83 = .ok (.aload_n 0, 1) := by decide +kernel
theorem d_P_putUntold_84 : decode m_P_putUntold.2.1 84 = .ok (.bipush 69, 2) := by decide +kernel
theorem d_P_putUntold_86 : decode m_P_putUntold.2.1 86 = .ok (.invokevirtual 29, 3) := by decide +kernel
theorem d_P_putUntold_89 : decode m_P_putUntold.2.1 89 = .ok (.goto 107, 3) := by decide +kernel
theorem d_P_putUntold_92 : decode m_P_putUntold.2.1 92 = .ok (.aload_n 0, 1) := by decide +kernel
theorem d_P_putUntold_93 : decode m_P_putUntold.2.1 93 = .ok (.iload_n 1, 1) := by decide +kernel
theorem d_P_putUntold_94 : decode m_P_putUntold.2.1 94 = .ok (.iload_n 2, 1) := by decide +kernel
theorem d_P_putUntold_95 : decode m_P_putUntold.2.1 95 = .ok (.invokevirtual 81, 3) := by decide +kernel
theorem d_P_putUntold_98 : decode m_P_putUntold.2.1 98 = .ok (.goto 98, 3) := by decide +kernel
theorem d_P_putUntold_101 : decode m_P_putUntold.2.1 101 = .ok (.aload_n 0, 1) := by decide +kernel
theorem d_P_putUntold_102 : decode m_P_putUntold.2.1 102 = .ok (.aload_n 0, 1) := by decide +kernel
theorem d_P_putUntold_103 : decode m_P_putUntold.2.1 103 = .ok (.getfield 21, 3) := by decide +kernel
theorem d_P_putUntold_106 : decode m_P_putUntold.2.1 106 = .ok (.iload_n 1, 1) := by decide +kernel
theorem d_P_putUntold_107 : decode m_P_putUntold.2.1 107 = .ok (.invokevirtual 59, 3) := by decide +kernel
theorem d_P_putUntold_110 : decode m_P_putUntold.2.1 110 = .ok (.invokevirtual 84, 3) := by decide +kernel
theorem d_P_putUntold_113 : decode m_P_putUntold.2.1 113 = .ok (.aload_n 0, 1) := by decide +kernel
theorem d_P_putUntold_114 : decode m_P_putUntold.2.1 114 = .ok (.iload_n 3, 1) := by decide +kernel
theorem d_P_putUntold_115 : decode m_P_putUntold.2.1 115 = .ok (.iload_n 2, 1) := by decide +kernel
theorem d_P_putUntold_116 : decode m_P_putUntold.2.1 116 = .ok (.iconst 1, 1) := by decide +kernel
theorem d_P_putUntold_117 : decode m_P_putUntold.2.1 117 = .ok (.iadd, 1) := by decide +kernel
theorem d_P_putUntold_118 : decode m_P_putUntold.2.1 118 = .ok (.invokevirtual 42, 3) := by decide +kernel
theorem d_P_putUntold_121 : decode m_P_putUntold.2.1 121 = .ok (.goto 75, 3) := by decide +kernel
theorem d_P_putUntold_124 : decode m_P_putUntold.2.1 124 = .ok (.aload_n 0, 1) := by decide +kernel
theorem d_P_putUntold_125 : decode m_P_putUntold.2.1 125 = .ok (.bipush 65, 2) := by decide +kernel
theorem d_P_putUntold_127 : decode m_P_putUntold.2.1 127 = .ok (.invokevirtual 29, 3) := by decide +kernel
theorem d_P_putUntold_130 : decode m_P_putUntold.2.1 130 = .ok (.aload_n 0, 1) := by decide +kernel
theorem d_P_putUntold_131 : decode m_P_putUntold.2.1 131 = .ok (.aload_n 0, 1) := by decide +kernel
theorem d_P_putUntold_132 : decode m_P_putUntold.2.1 132 = .ok (.getfield 21, 3) := by decide +kernel
theorem d_P_putUntold_135 : decode m_P_putUntold.2.1 135 = .ok (.iload_n 1, 1) := by decide +kernel
theorem d_P_putUntold_136 : decode m_P_putUntold.2.1 136 = .ok (.iconst 1, 1) := by decide +kernel
theorem d_P_putUntold_137 : decode m_P_putUntold.2.1 137 = .ok (.invokevirtual 32, 3) := by decide +kernel
theorem d_P_putUntold_140 : decode m_P_putUntold.2.1 140 = .ok (.invokevirtual 87, 3) := by decide +kernel
theorem d_P_putUntold_143 : decode m_P_putUntold.2.1 143 = .ok (.aload_n 0, 1) := by decide +kernel
theorem d_P_putUntold_144 : decode m_P_putUntold.2.1 144 = .ok (.bipush 95, 2) := by decide +kernel
theorem d_P_putUntold_146 : decode m_P_putUntold.2.1 146 = .ok (.invokevirtual 29, 3) := by decide +kernel
theorem d_P_putUntold_149 : decode m_P_putUntold.2.1 149 = .ok (.aload_n 0, 1) := by decide +kernel
theorem d_P_putUntold_150 : decode m_P_putUntold.2.1 150 = .ok (.iload_n 3, 1) := by decide +kernel
theorem d_P_putUntold_151 : decode m_P_putUntold.2.1 151 = .ok (.iload_n 2, 1) := by decide +kernel
theorem d_P_putUntold_152 : decode m_P_putUntold.2.1 152 = .ok (.iconst 1, 1) := by decide +kernel
theorem d_P_putUntold_153 : decode m_P_putUntold.2.1 153 = .ok (.iadd, 1) := by decide +kernel
theorem d_P_putUntold_154 : decode m_P_putUntold.2.1 154 = .ok (.invokevirtual 42, 3) := by decide +kernel
theorem d_P_putUntold_157 : decode m_P_putUntold.2.1 157 = .ok (.goto 39, 3) := by decide +kernel
theorem d_P_putUntold_160 : decode m_P_putUntold.2.1 160 = .ok (.aload_n 0, 1) := by decide +kernel
theorem d_P_putUntold_161 : decode m_P_putUntold.2.1 161 = .ok (.bipush 70, 2) := by decide +kernel
theorem d_P_putUntold_163 : decode m_P_putUntold.2.1 163 = .ok (.invokevirtual 29, 3) := by decide +kernel
theorem d_P_putUntold_166 : decode m_P_putUntold.2.1 166 = .ok (.aload_n 0, 1) := by decide +kernel
theorem d_P_putUntold_167 : decode m_P_putUntold.2.1 167 = .ok (.iload_n 3, 1) := by decide +kernel
theorem d_P_putUntold_168 : decode m_P_putUntold.2.1 168 = .ok (.iload_n 2, 1) := by decide +kernel
theorem d_P_putUntold_169 : decode m_P_putUntold.2.1 169 = .ok (.iconst 1, 1) := by decide +kernel
theorem d_P_putUntold_170 : decode m_P_putUntold.2.1 170 = .ok (.iadd, 1) := by decide +kernel
theorem d_P_putUntold_171 : decode m_P_putUntold.2.1 171 = .ok (.invokevirtual 42, 3) := by decide +kernel
theorem d_P_putUntold_174 : decode m_P_putUntold.2.1 174 = .ok (.aload_n 0, 1) := by decide +kernel
theorem d_P_putUntold_175 : decode m_P_putUntold.2.1 175 = .ok (.iload_n 1, 1) := by decide +kernel
theorem d_P_putUntold_176 : decode m_P_putUntold.2.1 176 = .ok (.iload_n 2, 1) := by decide +kernel
theorem d_P_putUntold_177 : decode m_P_putUntold.2.1 177 = .ok (.iconst 1, 1) := by decide +kernel
theorem d_P_putUntold_178 : decode m_P_putUntold.2.1 178 = .ok (.iadd, 1) := by decide +kernel
theorem d_P_putUntold_179 : decode m_P_putUntold.2.1 179 = .ok (.invokevirtual 45, 3) := by decide +kernel
theorem d_P_putUntold_182 : decode m_P_putUntold.2.1 182 = .ok (.aload_n 0, 1) := by decide +kernel
theorem d_P_putUntold_183 : decode m_P_putUntold.2.1 183 = .ok (.bipush 69, 2) := by decide +kernel
theorem d_P_putUntold_185 : decode m_P_putUntold.2.1 185 = .ok (.invokevirtual 29, 3) := by decide +kernel
theorem d_P_putUntold_188 : decode m_P_putUntold.2.1 188 = .ok (.goto 8, 3) := by decide +kernel
theorem d_P_putUntold_191 : decode m_P_putUntold.2.1 191 = .ok (.aload_n 0, 1) := by decide +kernel
theorem d_P_putUntold_192 : decode m_P_putUntold.2.1 192 = .ok (.iload_n 1, 1) := by decide +kernel
theorem d_P_putUntold_193 : decode m_P_putUntold.2.1 193 = .ok (.invokevirtual 75, 3) := by decide +kernel
theorem d_P_putUntold_196 : decode m_P_putUntold.2.1 196 = .ok (.return_, 1) := by decide +kernel
theorem d_P_needLevel_0 : decode m_P_needLevel.2.1 0 = .ok (.iload_n 0, 1) := by decide +kernel
theorem d_P_needLevel_1 : decode m_P_needLevel.2.1 1 = .ok (.bipush 16, 2) := by decide +kernel
theorem d_P_needLevel_3 : decode m_P_needLevel.2.1 3 = .ok (.if_icmp .le 13, 3) := by decide +kernel
theorem d_P_needLevel_6 : decode m_P_needLevel.2.1 6 = .ok (.new 52, 3) := by decide +kernel
theorem d_P_needLevel_9 : decode m_P_needLevel.2.1 9 = .ok (.dup, 1) := by decide +kernel
theorem d_P_needLevel_10 : decode m_P_needLevel.2.1 10 = .ok (.ldc 90, 2) := by decide +kernel
theorem d_P_needLevel_12 : decode m_P_needLevel.2.1 12 = .ok (.invokespecial 56, 3) := by decide +kernel
theorem d_P_needLevel_15 : decode m_P_needLevel.2.1 15 = .ok (.athrow, 1) := by decide +kernel
theorem d_P_needLevel_16 : decode m_P_needLevel.2.1 16 = .ok (.return_, 1) := by decide +kernel
theorem d_P_putPrefix_0 : decode m_P_putPrefix.2.1 0 = .ok (.aload_n 0, 1) := by decide +kernel
theorem d_P_putPrefix_1 : decode m_P_putPrefix.2.1 1 = .ok (.iload_n 1, 1) := by decide +kernel
theorem d_P_putPrefix_2 : decode m_P_putPrefix.2.1 2 = .ok (.invokevirtual 66, 3) := by decide +kernel
theorem d_P_putPrefix_5 : decode m_P_putPrefix.2.1 5 = .ok (.ifCond .eq 4, 3) := by decide +kernel
theorem d_P_putPrefix_8 : decode m_P_putPrefix.2.1 8 = .ok (.return_, 1) := by decide +kernel
theorem d_P_putPrefix_9 : decode m_P_putPrefix.2.1 9 = .ok (.iload_n 2, 1) := by decide +kernel
theorem d_P_putPrefix_10 : decode m_P_putPrefix.2.1 10 = .ok (.invokestatic 69, 3) := by decide +kernel
theorem d_P_putPrefix_13 : decode m_P_putPrefix.2.1 13 = .ok (.aload_n 0, 1) := by decide +kernel
theorem d_P_putPrefix_14 : decode m_P_putPrefix.2.1 14 = .ok (.getfield 21, 3) := by decide +kernel
theorem d_P_putPrefix_17 : decode m_P_putPrefix.2.1 17 = .ok (.iload_n 1, 1) := by decide +kernel
theorem d_P_putPrefix_18 : decode m_P_putPrefix.2.1 18 = .ok (.iconst 2, 1) := by decide +kernel
theorem d_P_putPrefix_19 : decode m_P_putPrefix.2.1 19 = .ok (.invokevirtual 32, 3) := by decide +kernel
theorem d_P_putPrefix_22 : decode m_P_putPrefix.2.1 22 = .ok (.istore_n 3, 1) := by decide +kernel
theorem d_P_putPrefix_23 : decode m_P_putPrefix.2.1 23 = .ok (.aload_n 0, 1) := by decide +kernel
theorem d_P_putPrefix_24 : decode m_P_putPrefix.2.1 24 = .ok (.getfield 21, 3) := by decide +kernel
theorem d_P_putPrefix_27 : decode m_P_putPrefix.2.1 27 = .ok (.iload_n 1, 1) := by decide +kernel
theorem d_P_putPrefix_28 : decode m_P_putPrefix.2.1 28 = .ok (.invokevirtual 59, 3) := by decide +kernel
theorem d_P_putPrefix_31 : decode m_P_putPrefix.2.1 31 = .ok (.lookupswitch 60 #[(2, 25), (3, 41)], 25) := by decide +kernel
theorem d_P_putPrefix_56 : decode m_P_putPrefix.2.1 56 = .ok (.aload_n 0, 1) := by decide +kernel
theorem d_P_putPrefix_57 : decode m_P_putPrefix.2.1 57 = .ok (.iload_n 3, 1) := by decide +kernel
theorem d_P_putPrefix_58 : decode m_P_putPrefix.2.1 58 = .ok (.iload_n 2, 1) := by decide +kernel
theorem d_P_putPrefix_59 : decode m_P_putPrefix.2.1 59 = .ok (.iconst 1, 1) := by decide +kernel
theorem d_P_putPrefix_60 : decode m_P_putPrefix.2.1 60 = .ok (.iadd, 1) := by decide +kernel
theorem d_P_putPrefix_61 : decode m_P_putPrefix.2.1 61 = .ok (.invokevirtual 72, 3) := by decide +kernel
theorem d_P_putPrefix_64 : decode m_P_putPrefix.2.1 64 = .ok (.aload_n 0, 1) := by decide +kernel
theorem d_P_putPrefix_65 : decode m_P_putPrefix.2.1 65 = .ok (.iload_n 1, 1) := by decide +kernel
theorem d_P_putPrefix_66 : decode m_P_putPrefix.2.1 66 = .ok (.invokevirtual 75, 3) := by decide +kernel
theorem d_P_putPrefix_69 : decode m_P_putPrefix.2.1 69 = .ok (.goto 27, 3) := by decide +kernel
theorem d_P_putPrefix_72 : decode m_P_putPrefix.2.1 72 = .ok (.aload_n 0, 1) := by decide +kernel
theorem d_P_putPrefix_73 : decode m_P_putPrefix.2.1 73 = .ok (.iload_n 3, 1) := by decide +kernel
theorem d_P_putPrefix_74 : decode m_P_putPrefix.2.1 74 = .ok (.iload_n 2, 1) := by decide +kernel
theorem d_P_putPrefix_75 : decode m_P_putPrefix.2.1 75 = .ok (.iconst 1, 1) := by decide +kernel
theorem d_P_putPrefix_76 : decode m_P_putPrefix.2.1 76 = .ok (.iadd, 1) := by decide +kernel
theorem d_P_putPrefix_77 : decode m_P_putPrefix.2.1 77 = .ok (.invokevirtual 72, 3) := by decide +kernel
theorem d_P_putPrefix_80 : decode m_P_putPrefix.2.1 80 = .ok (.aload_n 0, 1) := by decide +kernel
theorem d_P_putPrefix_81 : decode m_P_putPrefix.2.1 81 = .ok (.iload_n 1, 1) := by decide +kernel
theorem d_P_putPrefix_82 : decode m_P_putPrefix.2.1 82 = .ok (.iload_n 2, 1) := by decide +kernel
theorem d_P_putPrefix_83 : decode m_P_putPrefix.2.1 83 = .ok (.iconst 1, 1) := by decide +kernel
theorem d_P_putPrefix_84 : decode m_P_putPrefix.2.1 84 = .ok (.iadd, 1) := by decide +kernel
theorem d_P_putPrefix_85 : decode m_P_putPrefix.2.1 85 = .ok (.invokevirtual 78, 3) := by decide +kernel
theorem d_P_putPrefix_88 : decode m_P_putPrefix.2.1 88 = .ok (.goto 8, 3) := by decide +kernel
theorem d_P_putPrefix_91 : decode m_P_putPrefix.2.1 91 = .ok (.aload_n 0, 1) := by decide +kernel
theorem d_P_putPrefix_92 : decode m_P_putPrefix.2.1 92 = .ok (.iload_n 1, 1) := by decide +kernel
theorem d_P_putPrefix_93 : decode m_P_putPrefix.2.1 93 = .ok (.invokevirtual 75, 3) := by decide +kernel
theorem d_P_putPrefix_96 : decode m_P_putPrefix.2.1 96 = .ok (.aload_n 0, 1) := by decide +kernel
theorem d_P_putPrefix_97 : decode m_P_putPrefix.2.1 97 = .ok (.getfield 18, 3) := by decide +kernel
theorem d_P_putPrefix_100 : decode m_P_putPrefix.2.1 100 = .ok (.iload_n 1, 1) := by decide +kernel
theorem d_P_putPrefix_101 : decode m_P_putPrefix.2.1 101 = .ok (.invokevirtual 48, 3) := by decide +kernel
theorem d_P_putPrefix_104 : decode m_P_putPrefix.2.1 104 = .ok (.pop, 1) := by decide +kernel
theorem d_P_putPrefix_105 : decode m_P_putPrefix.2.1 105 = .ok (.return_, 1) := by decide +kernel
theorem d_P_putTold_0 : decode m_P_putTold.2.1 0 = .ok (.aload_n 0, 1) := by decide +kernel
theorem d_P_putTold_1 : decode m_P_putTold.2.1 1 = .ok (.getfield 18, 3) := by decide +kernel
theorem d_P_putTold_4 : decode m_P_putTold.2.1 4 = .ok (.iload_n 1, 1) := by decide +kernel
theorem d_P_putTold_5 : decode m_P_putTold.2.1 5 = .ok (.invokevirtual 118, 3) := by decide +kernel
theorem d_P_putTold_8 : decode m_P_putTold.2.1 8 = .ok (.istore_n 2, 1) := by decide +kernel
theorem d_P_putTold_9 : decode m_P_putTold.2.1 9 = .ok (.iload_n 2, 1) := by decide +kernel
theorem d_P_putTold_10 : decode m_P_putTold.2.1 10 = .ok (.iconst (-1), 1) := by decide +kernel
theorem d_P_putTold_11 : decode m_P_putTold.2.1 11 = .ok (.if_icmp .ne 5, 3) := by decide +kernel
theorem d_P_putTold_14 : decode m_P_putTold.2.1 14 = .ok (.iconst 0, 1) := by decide +kernel
theorem d_P_putTold_15 : decode m_P_putTold.2.1 15 = .ok (.ireturn, 1) := by decide +kernel
theorem d_P_putTold_16 : decode m_P_putTold.2.1 16 = .ok (.aload_n 0, 1) := by decide +kernel
theorem d_P_putTold_17 : decode m_P_putTold.2.1 17 = .ok (.bipush 83, 2) := by decide +kernel
theorem d_P_putTold_19 : decode m_P_putTold.2.1 19 = .ok (.invokevirtual 29, 3) := by decide +kernel
theorem d_P_putTold_22 : decode m_P_putTold.2.1 22 = .ok (.iload_n 2, 1) := by decide +kernel
theorem d_P_putTold_23 : decode m_P_putTold.2.1 23 = .ok (.bipush 36, 2) := by decide +kernel
theorem d_P_putTold_25 : decode m_P_putTold.2.1 25 = .ok (.if_icmp .le 13, 3) := by decide +kernel
theorem d_P_putTold_28 : decode m_P_putTold.2.1 28 = .ok (.aload_n 0, 1) := by decide +kernel
theorem d_P_putTold_29 : decode m_P_putTold.2.1 29 = .ok (.iload_n 2, 1) := by decide +kernel
theorem d_P_putTold_30 : decode m_P_putTold.2.1 30 = .ok (.iconst 1, 1) := by decide +kernel
theorem d_P_putTold_31 : decode m_P_putTold.2.1 31 = .ok (.isub, 1) := by decide +kernel
theorem d_P_putTold_32 : decode m_P_putTold.2.1 32 = .ok (.bipush 36, 2) := by decide +kernel
theorem d_P_putTold_34 : decode m_P_putTold.2.1 34 = .ok (.idiv, 1) := by decide +kernel
theorem d_P_putTold_35 : decode m_P_putTold.2.1 35 = .ok (.invokevirtual 121, 3) := by decide +kernel
theorem d_P_putTold_38 : decode m_P_putTold.2.1 38 = .ok (.iload_n 2, 1) := by decide +kernel
theorem d_P_putTold_39 : decode m_P_putTold.2.1 39 = .ok (.ifCond .le 13, 3) := by decide +kernel
theorem d_P_putTold_42 : decode m_P_putTold.2.1 42 = .ok (.aload_n 0, 1) := by decide +kernel
theorem d_P_putTold_43 : decode m_P_putTold.2.1 43 = .ok (.iload_n 2, 1) := by decide +kernel
theorem d_P_putTold_44 : decode m_P_putTold.2.1 44 = .ok (.iconst 1, 1) := by decide +kernel
theorem d_P_putTold_45 : decode m_P_putTold.2.1 45 = .ok (.isub, 1) := by decide +kernel
theorem d_P_putTold_46 : decode m_P_putTold.2.1 46 = .ok (.bipush 36, 2) := by decide +kernel
theorem d_P_putTold_48 : decode m_P_putTold.2.1 48 = .ok (.irem, 1) := by decide +kernel
theorem d_P_putTold_49 : decode m_P_putTold.2.1 49 = .ok (.invokevirtual 121, 3) := by decide +kernel
theorem d_P_putTold_52 : decode m_P_putTold.2.1 52 = .ok (.aload_n 0, 1) := by decide +kernel
theorem d_P_putTold_53 : decode m_P_putTold.2.1 53 = .ok (.bipush 95, 2) := by decide +kernel
theorem d_P_putTold_55 : decode m_P_putTold.2.1 55 = .ok (.invokevirtual 29, 3) := by decide +kernel
theorem d_P_putTold_58 : decode m_P_putTold.2.1 58 = .ok (.iconst 1, 1) := by decide +kernel
theorem d_P_putTold_59 : decode m_P_putTold.2.1 59 = .ok (.ireturn, 1) := by decide +kernel
theorem d_W_find_0 : decode m_W_find.2.1 0 = .ok (.iconst 0, 1) := by decide +kernel
theorem d_W_find_1 : decode m_W_find.2.1 1 = .ok (.istore_n 2, 1) := by decide +kernel
theorem d_W_find_2 : decode m_W_find.2.1 2 = .ok (.iload_n 2, 1) := by decide +kernel
theorem d_W_find_3 : decode m_W_find.2.1 3 = .ok (.aload_n 0, 1) := by decide +kernel
theorem d_W_find_4 : decode m_W_find.2.1 4 = .ok (.getfield 15, 3) := by decide +kernel
theorem d_W_find_7 : decode m_W_find.2.1 7 = .ok (.if_icmp .ge 21, 3) := by decide +kernel
theorem d_W_find_10 : decode m_W_find.2.1 10 = .ok (.aload_n 0, 1) := by decide +kernel
theorem d_W_find_11 : decode m_W_find.2.1 11 = .ok (.getfield 9, 3) := by decide +kernel
theorem d_W_find_14 : decode m_W_find.2.1 14 = .ok (.iload_n 2, 1) := by decide +kernel
theorem d_W_find_15 : decode m_W_find.2.1 15 = .ok (.iaload, 1) := by decide +kernel
theorem d_W_find_16 : decode m_W_find.2.1 16 = .ok (.iload_n 1, 1) := by decide +kernel
theorem d_W_find_17 : decode m_W_find.2.1 17 = .ok (.if_icmp .ne 5, 3) := by decide +kernel
theorem d_W_find_20 : decode m_W_find.2.1 20 = .ok (.iload_n 2, 1) := by decide +kernel
theorem d_W_find_21 : decode m_W_find.2.1 21 = .ok (.ireturn, 1) := by decide +kernel
theorem d_W_find_22 : decode m_W_find.2.1 22 = .ok (.iinc 2 1, 3) := by decide +kernel
theorem d_W_find_25 : decode m_W_find.2.1 25 = .ok (.goto (-23), 3) := by decide +kernel
theorem d_W_find_28 : decode m_W_find.2.1 28 = .ok (.iconst (-1), 1) := by decide +kernel
theorem d_W_find_29 : decode m_W_find.2.1 29 = .ok (.ireturn, 1) := by decide +kernel
theorem d_P_putBase36Digit_0 : decode m_P_putBase36Digit.2.1 0 = .ok (.aload_n 0, 1) := by decide +kernel
theorem d_P_putBase36Digit_1 : decode m_P_putBase36Digit.2.1 1 = .ok (.iload_n 1, 1) := by decide +kernel
theorem d_P_putBase36Digit_2 : decode m_P_putBase36Digit.2.1 2 = .ok (.bipush 10, 2) := by decide +kernel
theorem d_P_putBase36Digit_4 : decode m_P_putBase36Digit.2.1 4 = .ok (.if_icmp .ge 10, 3) := by decide +kernel
theorem d_P_putBase36Digit_7 : decode m_P_putBase36Digit.2.1 7 = .ok (.bipush 48, 2) := by decide +kernel
theorem d_P_putBase36Digit_9 : decode m_P_putBase36Digit.2.1 9 = .ok (.iload_n 1, 1) := by decide +kernel
theorem d_P_putBase36Digit_10 : decode m_P_putBase36Digit.2.1 10 = .ok (.iadd, 1) := by decide +kernel
theorem d_P_putBase36Digit_11 : decode m_P_putBase36Digit.2.1 11 = .ok (.goto 10, 3) := by decide +kernel
theorem d_P_putBase36Digit_14 : decode m_P_putBase36Digit.2.1 14 = .ok (.bipush 65, 2) := by decide +kernel
theorem d_P_putBase36Digit_16 : decode m_P_putBase36Digit.2.1 16 = .ok (.iload_n 1, 1) := by decide +kernel
theorem d_P_putBase36Digit_17 : decode m_P_putBase36Digit.2.1 17 = .ok (.iadd, 1) := by decide +kernel
theorem d_P_putBase36Digit_18 : decode m_P_putBase36Digit.2.1 18 = .ok (.bipush 10, 2) := by decide +kernel
theorem d_P_putBase36Digit_20 : decode m_P_putBase36Digit.2.1 20 = .ok (.isub, 1) := by decide +kernel
theorem d_P_putBase36Digit_21 : decode m_P_putBase36Digit.2.1 21 = .ok (.invokevirtual 29, 3) := by decide +kernel
theorem d_P_putBase36Digit_24 : decode m_P_putBase36Digit.2.1 24 = .ok (.return_, 1) := by decide +kernel
theorem d_P_putId_0 : decode m_P_putId.2.1 0 = .ok (.aload_n 0, 1) := by decide +kernel
theorem d_P_putId_1 : decode m_P_putId.2.1 1 = .ok (.getfield 21, 3) := by decide +kernel
theorem d_P_putId_4 : decode m_P_putId.2.1 4 = .ok (.iload_n 1, 1) := by decide +kernel
theorem d_P_putId_5 : decode m_P_putId.2.1 5 = .ok (.iconst 1, 1) := by decide +kernel
theorem d_P_putId_6 : decode m_P_putId.2.1 6 = .ok (.invokevirtual 32, 3) := by decide +kernel
theorem d_P_putId_9 : decode m_P_putId.2.1 9 = .ok (.istore_n 2, 1) := by decide +kernel
theorem d_P_putId_10 : decode m_P_putId.2.1 10 = .ok (.iload_n 2, 1) := by decide +kernel
theorem d_P_putId_11 : decode m_P_putId.2.1 11 = .ok (.invokestatic 114, 3) := by decide +kernel
theorem d_P_putId_14 : decode m_P_putId.2.1 14 = .ok (.istore_n 3, 1) := by decide +kernel
theorem d_P_putId_15 : decode m_P_putId.2.1 15 = .ok (.aload_n 0, 1) := by decide +kernel
theorem d_P_putId_16 : decode m_P_putId.2.1 16 = .ok (.bipush 48, 2) := by decide +kernel
theorem d_P_putId_18 : decode m_P_putId.2.1 18 = .ok (.iload_n 3, 1) := by decide +kernel
theorem d_P_putId_19 : decode m_P_putId.2.1 19 = .ok (.iadd, 1) := by decide +kernel
theorem d_P_putId_20 : decode m_P_putId.2.1 20 = .ok (.invokevirtual 29, 3) := by decide +kernel
theorem d_P_putId_23 : decode m_P_putId.2.1 23 = .ok (.iload_n 3, 1) := by decide +kernel
theorem d_P_putId_24 : decode m_P_putId.2.1 24 = .ok (.iconst 1, 1) := by decide +kernel
theorem d_P_putId_25 : decode m_P_putId.2.1 25 = .ok (.isub, 1) := by decide +kernel
theorem d_P_putId_26 : decode m_P_putId.2.1 26 = .ok (.istore 4, 2) := by decide +kernel
theorem d_P_putId_28 : decode m_P_putId.2.1 28 = .ok (.iload 4, 2) := by decide +kernel
theorem d_P_putId_30 : decode m_P_putId.2.1 30 = .ok (.ifCond .lt 24, 3) := by decide +kernel
theorem d_P_putId_33 : decode m_P_putId.2.1 33 = .ok (.aload_n 0, 1) := by decide +kernel
theorem d_P_putId_34 : decode m_P_putId.2.1 34 = .ok (.iload_n 2, 1) := by decide +kernel
theorem d_P_putId_35 : decode m_P_putId.2.1 35 = .ok (.bipush 8, 2) := by decide +kernel
theorem d_P_putId_37 : decode m_P_putId.2.1 37 = .ok (.iload 4, 2) := by decide +kernel
theorem d_P_putId_39 : decode m_P_putId.2.1 39 = .ok (.imul, 1) := by decide +kernel
theorem d_P_putId_40 : decode m_P_putId.2.1 40 = .ok (.iushr, 1) := by decide +kernel
theorem d_P_putId_41 : decode m_P_putId.2.1 41 = .ok (.sipush 255, 3) := by decide +kernel
theorem d_P_putId_44 : decode m_P_putId.2.1 44 = .ok (.iand, 1) := by decide +kernel
theorem d_P_putId_45 : decode m_P_putId.2.1 45 = .ok (.invokevirtual 29, 3) := by decide +kernel
theorem d_P_putId_48 : decode m_P_putId.2.1 48 = .ok (.iinc 4 (-1), 3) := by decide +kernel
theorem d_P_putId_51 : decode m_P_putId.2.1 51 = .ok (.goto (-23), 3) := by decide +kernel
theorem d_P_putId_54 : decode m_P_putId.2.1 54 = .ok (.return_, 1) := by decide +kernel
theorem d_P_putArguments_0 : decode m_P_putArguments.2.1 0 = .ok (.aload_n 0, 1) := by decide +kernel
theorem d_P_putArguments_1 : decode m_P_putArguments.2.1 1 = .ok (.bipush 73, 2) := by decide +kernel
theorem d_P_putArguments_3 : decode m_P_putArguments.2.1 3 = .ok (.invokevirtual 29, 3) := by decide +kernel
theorem d_P_putArguments_6 : decode m_P_putArguments.2.1 6 = .ok (.iconst 4, 1) := by decide +kernel
theorem d_P_putArguments_7 : decode m_P_putArguments.2.1 7 = .ok (.istore_n 3, 1) := by decide +kernel
theorem d_P_putArguments_8 : decode m_P_putArguments.2.1 8 = .ok (.iload_n 3, 1) := by decide +kernel
theorem d_P_putArguments_9 : decode m_P_putArguments.2.1 9 = .ok (.bipush 6, 2) := by decide +kernel
theorem d_P_putArguments_11 : decode m_P_putArguments.2.1 11 = .ok (.if_icmp .gt 56, 3) := by decide +kernel
theorem d_P_putArguments_14 : decode m_P_putArguments.2.1 14 = .ok (.aload_n 0, 1) := by decide +kernel
theorem d_P_putArguments_15 : decode m_P_putArguments.2.1 15 = .ok (.getfield 21, 3) := by decide +kernel
theorem d_P_putArguments_18 : decode m_P_putArguments.2.1 18 = .ok (.iload_n 1, 1) := by decide +kernel
theorem d_P_putArguments_19 : decode m_P_putArguments.2.1 19 = .ok (.iload_n 3, 1) := by decide +kernel
theorem d_P_putArguments_20 : decode m_P_putArguments.2.1 20 = .ok (.invokevirtual 32, 3) := by decide +kernel
theorem d_P_putArguments_23 : decode m_P_putArguments.2.1 23 = .ok (.istore 4, 2) := by decide +kernel
theorem d_P_putArguments_25 : decode m_P_putArguments.2.1 25 = .ok (.aload_n 0, 1) := by decide +kernel
theorem d_P_putArguments_26 : decode m_P_putArguments.2.1 26 = .ok (.getfield 21, 3) := by decide +kernel
theorem d_P_putArguments_29 : decode m_P_putArguments.2.1 29 = .ok (.iload 4, 2) := by decide +kernel
theorem d_P_putArguments_31 : decode m_P_putArguments.2.1 31 = .ok (.invokevirtual 59, 3) := by decide +kernel
theorem d_P_putArguments_34 : decode m_P_putArguments.2.1 34 = .ok (.bipush 9, 2) := by decide +kernel
theorem d_P_putArguments_36 : decode m_P_putArguments.2.1 36 = .ok (.if_icmp .ne 12, 3) := by decide +kernel
theorem d_P_putArguments_39 : decode m_P_putArguments.2.1 39 = .ok (.aload_n 0, 1) := by decide +kernel
theorem d_P_putArguments_40 : decode m_P_putArguments.2.1 40 = .ok (.iload 4, 2) := by decide +kernel
theorem d_P_putArguments_42 : decode m_P_putArguments.2.1 42 = .ok (.invokevirtual 92, 3) := by decide +kernel
theorem d_P_putArguments_45 : decode m_P_putArguments.2.1 45 = .ok (.goto 16, 3) := by decide +kernel
theorem d_P_putArguments_48 : decode m_P_putArguments.2.1 48 = .ok (.iload 4, 2) := by decide +kernel
theorem d_P_putArguments_50 : decode m_P_putArguments.2.1 50 = .ok (.iconst (-1), 1) := by decide +kernel
theorem d_P_putArguments_51 : decode m_P_putArguments.2.1 51 = .ok (.if_icmp .eq 10, 3) := by decide +kernel
theorem d_P_putArguments_54 : decode m_P_putArguments.2.1 54 = .ok (.aload_n 0, 1) := by decide +kernel
theorem d_P_putArguments_55 : decode m_P_putArguments.2.1 55 = .ok (.iload 4, 2) := by decide +kernel
theorem d_P_putArguments_57 : decode m_P_putArguments.2.1 57 = .ok (.iload_n 2, 1) := by decide +kernel
theorem d_P_putArguments_58 : decode m_P_putArguments.2.1 58 = .ok (.invokevirtual 42, 3) := by decide +kernel
theorem d_P_putArguments_61 : decode m_P_putArguments.2.1 61 = .ok (.iinc 3 1, 3) := by decide +kernel
theorem d_P_putArguments_64 : decode m_P_putArguments.2.1 64 = .ok (.goto (-56), 3) := by decide +kernel
theorem d_P_putArguments_67 : decode m_P_putArguments.2.1 67 = .ok (.aload_n 0, 1) := by decide +kernel
theorem d_P_putArguments_68 : decode m_P_putArguments.2.1 68 = .ok (.bipush 69, 2) := by decide +kernel
theorem d_P_putArguments_70 : decode m_P_putArguments.2.1 70 = .ok (.invokevirtual 29, 3) := by decide +kernel
theorem d_P_putArguments_73 : decode m_P_putArguments.2.1 73 = .ok (.return_, 1) := by decide +kernel
theorem d_P_putLiteral_0 : decode m_P_putLiteral.2.1 0 = .ok (.aload_n 0, 1) := by decide +kernel
theorem d_P_putLiteral_1 : decode m_P_putLiteral.2.1 1 = .ok (.getfield 21, 3) := by decide +kernel
theorem d_P_putLiteral_4 : decode m_P_putLiteral.2.1 4 = .ok (.iload_n 1, 1) := by decide +kernel
theorem d_P_putLiteral_5 : decode m_P_putLiteral.2.1 5 = .ok (.iconst 1, 1) := by decide +kernel
theorem d_P_putLiteral_6 : decode m_P_putLiteral.2.1 6 = .ok (.invokevirtual 32, 3) := by decide +kernel
theorem d_P_putLiteral_9 : decode m_P_putLiteral.2.1 9 = .ok (.istore_n 2, 1) := by decide +kernel
theorem d_P_putLiteral_10 : decode m_P_putLiteral.2.1 10 = .ok (.aload_n 0, 1) := by decide +kernel
theorem d_P_putLiteral_11 : decode m_P_putLiteral.2.1 11 = .ok (.bipush 76, 2) := by decide +kernel
theorem d_P_putLiteral_13 : decode m_P_putLiteral.2.1 13 = .ok (.invokevirtual 29, 3) := by decide +kernel
theorem d_P_putLiteral_16 : decode m_P_putLiteral.2.1 16 = .ok (.aload_n 0, 1) := by decide +kernel
theorem d_P_putLiteral_17 : decode m_P_putLiteral.2.1 17 = .ok (.aload_n 0, 1) := by decide +kernel
theorem d_P_putLiteral_18 : decode m_P_putLiteral.2.1 18 = .ok (.getfield 21, 3) := by decide +kernel
theorem d_P_putLiteral_21 : decode m_P_putLiteral.2.1 21 = .ok (.iload_n 1, 1) := by decide +kernel
theorem d_P_putLiteral_22 : decode m_P_putLiteral.2.1 22 = .ok (.iconst 2, 1) := by decide +kernel
theorem d_P_putLiteral_23 : decode m_P_putLiteral.2.1 23 = .ok (.invokevirtual 32, 3) := by decide +kernel
theorem d_P_putLiteral_26 : decode m_P_putLiteral.2.1 26 = .ok (.invokevirtual 63, 3) := by decide +kernel
theorem d_P_putLiteral_29 : decode m_P_putLiteral.2.1 29 = .ok (.iload_n 2, 1) := by decide +kernel
theorem d_P_putLiteral_30 : decode m_P_putLiteral.2.1 30 = .ok (.ifCond .ge 9, 3) := by decide +kernel
theorem d_P_putLiteral_33 : decode m_P_putLiteral.2.1 33 = .ok (.aload_n 0, 1) := by decide +kernel
theorem d_P_putLiteral_34 : decode m_P_putLiteral.2.1 34 = .ok (.bipush 110, 2) := by decide +kernel
theorem d_P_putLiteral_36 : decode m_P_putLiteral.2.1 36 = .ok (.invokevirtual 29, 3) := by decide +kernel
theorem d_P_putLiteral_39 : decode m_P_putLiteral.2.1 39 = .ok (.aload_n 0, 1) := by decide +kernel
theorem d_P_putLiteral_40 : decode m_P_putLiteral.2.1 40 = .ok (.iload_n 2, 1) := by decide +kernel
theorem d_P_putLiteral_41 : decode m_P_putLiteral.2.1 41 = .ok (.invokestatic 95, 3) := by decide +kernel
theorem d_P_putLiteral_44 : decode m_P_putLiteral.2.1 44 = .ok (.invokevirtual 87, 3) := by decide +kernel
theorem d_P_putLiteral_47 : decode m_P_putLiteral.2.1 47 = .ok (.aload_n 0, 1) := by decide +kernel
theorem d_P_putLiteral_48 : decode m_P_putLiteral.2.1 48 = .ok (.bipush 69, 2) := by decide +kernel
theorem d_P_putLiteral_50 : decode m_P_putLiteral.2.1 50 = .ok (.invokevirtual 29, 3) := by decide +kernel
theorem d_P_putLiteral_53 : decode m_P_putLiteral.2.1 53 = .ok (.return_, 1) := by decide +kernel
theorem d_P_putBuiltin_0 : decode m_P_putBuiltin.2.1 0 = .ok (.aload_n 0, 1) := by decide +kernel
theorem d_P_putBuiltin_1 : decode m_P_putBuiltin.2.1 1 = .ok (.getfield 21, 3) := by decide +kernel
theorem d_P_putBuiltin_4 : decode m_P_putBuiltin.2.1 4 = .ok (.iload_n 1, 1) := by decide +kernel
theorem d_P_putBuiltin_5 : decode m_P_putBuiltin.2.1 5 = .ok (.iconst 1, 1) := by decide +kernel
theorem d_P_putBuiltin_6 : decode m_P_putBuiltin.2.1 6 = .ok (.invokevirtual 32, 3) := by decide +kernel
theorem d_P_putBuiltin_9 : decode m_P_putBuiltin.2.1 9 = .ok (.istore_n 2, 1) := by decide +kernel
theorem d_P_putBuiltin_10 : decode m_P_putBuiltin.2.1 10 = .ok (.iload_n 2, 1) := by decide +kernel
theorem d_P_putBuiltin_11 : decode m_P_putBuiltin.2.1 11 = .ok (.ifCond .lt 22, 3) := by decide +kernel
theorem d_P_putBuiltin_14 : decode m_P_putBuiltin.2.1 14 = .ok (.iload_n 2, 1) := by decide +kernel
theorem d_P_putBuiltin_15 : decode m_P_putBuiltin.2.1 15 = .ok (.ldc 100, 2) := by decide +kernel
theorem d_P_putBuiltin_17 : decode m_P_putBuiltin.2.1 17 = .ok (.invokevirtual 102, 3) := by decide +kernel
theorem d_P_putBuiltin_20 : decode m_P_putBuiltin.2.1 20 = .ok (.if_icmp .ge 13, 3) := by decide +kernel
theorem d_P_putBuiltin_23 : decode m_P_putBuiltin.2.1 23 = .ok (.aload_n 0, 1) := by decide +kernel
theorem d_P_putBuiltin_24 : decode m_P_putBuiltin.2.1 24 = .ok (.ldc 100, 2) := by decide +kernel
theorem d_P_putBuiltin_26 : decode m_P_putBuiltin.2.1 26 = .ok (.iload_n 2, 1) := by decide +kernel
theorem d_P_putBuiltin_27 : decode m_P_putBuiltin.2.1 27 = .ok (.invokevirtual 108, 3) := by decide +kernel
theorem d_P_putBuiltin_30 : decode m_P_putBuiltin.2.1 30 = .ok (.invokevirtual 29, 3) := by decide +kernel
theorem d_P_putBuiltin_33 : decode m_P_putBuiltin.2.1 33 = .ok (.return_, 1) := by decide +kernel
theorem d_P_putDecimal_0 : decode m_P_putDecimal.2.1 0 = .ok (.ldc 117, 2) := by decide +kernel
theorem d_P_putDecimal_2 : decode m_P_putDecimal.2.1 2 = .ok (.istore_n 2, 1) := by decide +kernel
theorem d_P_putDecimal_3 : decode m_P_putDecimal.2.1 3 = .ok (.iload_n 2, 1) := by decide +kernel
theorem d_P_putDecimal_4 : decode m_P_putDecimal.2.1 4 = .ok (.iconst 1, 1) := by decide +kernel
theorem d_P_putDecimal_5 : decode m_P_putDecimal.2.1 5 = .ok (.if_icmp .lt 34, 3) := by decide +kernel
theorem d_P_putDecimal_8 : decode m_P_putDecimal.2.1 8 = .ok (.iload_n 2, 1) := by decide +kernel
theorem d_P_putDecimal_9 : decode m_P_putDecimal.2.1 9 = .ok (.iconst 1, 1) := by decide +kernel
theorem d_P_putDecimal_10 : decode m_P_putDecimal.2.1 10 = .ok (.if_icmp .eq 8, 3) := by decide +kernel
theorem d_P_putDecimal_13 : decode m_P_putDecimal.2.1 13 = .ok (.iload_n 1, 1) := by decide +kernel
theorem d_P_putDecimal_14 : decode m_P_putDecimal.2.1 14 = .ok (.iload_n 2, 1) := by decide +kernel
theorem d_P_putDecimal_15 : decode m_P_putDecimal.2.1 15 = .ok (.if_icmp .lt 16, 3) := by decide +kernel
theorem d_P_putDecimal_18 : decode m_P_putDecimal.2.1 18 = .ok (.aload_n 0, 1) := by decide +kernel
theorem d_P_putDecimal_19 : decode m_P_putDecimal.2.1 19 = .ok (.bipush 48, 2) := by decide +kernel
theorem d_P_putDecimal_21 : decode m_P_putDecimal.2.1 21 = .ok (.iload_n 1, 1) := by decide +kernel
theorem d_P_putDecimal_22 : decode m_P_putDecimal.2.1 22 = .ok (.iload_n 2, 1) := by decide +kernel
theorem d_P_putDecimal_23 : decode m_P_putDecimal.2.1 23 = .ok (.idiv, 1) := by decide +kernel
theorem d_P_putDecimal_24 : decode m_P_putDecimal.2.1 24 = .ok (.bipush 10, 2) := by decide +kernel
theorem d_P_putDecimal_26 : decode m_P_putDecimal.2.1 26 = .ok (.irem, 1) := by decide +kernel
theorem d_P_putDecimal_27 : decode m_P_putDecimal.2.1 27 = .ok (.iadd, 1) := by decide +kernel
theorem d_P_putDecimal_28 : decode m_P_putDecimal.2.1 28 = .ok (.invokevirtual 29, 3) := by decide +kernel
theorem d_P_putDecimal_31 : decode m_P_putDecimal.2.1 31 = .ok (.iload_n 2, 1) := by decide +kernel
theorem d_P_putDecimal_32 : decode m_P_putDecimal.2.1 32 = .ok (.bipush 10, 2) := by decide +kernel
theorem d_P_putDecimal_34 : decode m_P_putDecimal.2.1 34 = .ok (.idiv, 1) := by decide +kernel
theorem d_P_putDecimal_35 : decode m_P_putDecimal.2.1 35 = .ok (.istore_n 2, 1) := by decide +kernel
theorem d_P_putDecimal_36 : decode m_P_putDecimal.2.1 36 = .ok (.goto (-33), 3) := by decide +kernel
theorem d_P_putDecimal_39 : decode m_P_putDecimal.2.1 39 = .ok (.return_, 1) := by decide +kernel
theorem d_P_putType_0 : decode m_P_putType.2.1 0 = .ok (.aload_n 0, 1) := by decide +kernel
theorem d_P_putType_1 : decode m_P_putType.2.1 1 = .ok (.getfield 21, 3) := by decide +kernel
theorem d_P_putType_4 : decode m_P_putType.2.1 4 = .ok (.iload_n 1, 1) := by decide +kernel
theorem d_P_putType_5 : decode m_P_putType.2.1 5 = .ok (.invokevirtual 59, 3) := by decide +kernel
theorem d_P_putType_8 : decode m_P_putType.2.1 8 = .ok (.ifCond .ne 11, 3) := by decide +kernel
theorem d_P_putType_11 : decode m_P_putType.2.1 11 = .ok (.aload_n 0, 1) := by decide +kernel
theorem d_P_putType_12 : decode m_P_putType.2.1 12 = .ok (.iload_n 1, 1) := by decide +kernel
theorem d_P_putType_13 : decode m_P_putType.2.1 13 = .ok (.invokevirtual 63, 3) := by decide +kernel
theorem d_P_putType_16 : decode m_P_putType.2.1 16 = .ok (.goto 26, 3) := by decide +kernel
theorem d_P_putType_19 : decode m_P_putType.2.1 19 = .ok (.aload_n 0, 1) := by decide +kernel
theorem d_P_putType_20 : decode m_P_putType.2.1 20 = .ok (.iload_n 1, 1) := by decide +kernel
theorem d_P_putType_21 : decode m_P_putType.2.1 21 = .ok (.invokevirtual 66, 3) := by decide +kernel
theorem d_P_putType_24 : decode m_P_putType.2.1 24 = .ok (.ifCond .ne 18, 3) := by decide +kernel
theorem d_P_putType_27 : decode m_P_putType.2.1 27 = .ok (.aload_n 0, 1) := by decide +kernel
theorem d_P_putType_28 : decode m_P_putType.2.1 28 = .ok (.iload_n 1, 1) := by decide +kernel
theorem d_P_putType_29 : decode m_P_putType.2.1 29 = .ok (.iload_n 2, 1) := by decide +kernel
theorem d_P_putType_30 : decode m_P_putType.2.1 30 = .ok (.invokevirtual 38, 3) := by decide +kernel
theorem d_P_putType_33 : decode m_P_putType.2.1 33 = .ok (.aload_n 0, 1) := by decide +kernel
theorem d_P_putType_34 : decode m_P_putType.2.1 34 = .ok (.getfield 18, 3) := by decide +kernel
theorem d_P_putType_37 : decode m_P_putType.2.1 37 = .ok (.iload_n 1, 1) := by decide +kernel
theorem d_P_putType_38 : decode m_P_putType.2.1 38 = .ok (.invokevirtual 48, 3) := by decide +kernel
theorem d_P_putType_41 : decode m_P_putType.2.1 41 = .ok (.pop, 1) := by decide +kernel
theorem d_P_putType_42 : decode m_P_putType.2.1 42 = .ok (.return_, 1) := by decide +kernel
theorem d_P_putFilled_0 : decode m_P_putFilled.2.1 0 = .ok (.aload_n 0, 1) := by decide +kernel
theorem d_P_putFilled_1 : decode m_P_putFilled.2.1 1 = .ok (.getfield 21, 3) := by decide +kernel
theorem d_P_putFilled_4 : decode m_P_putFilled.2.1 4 = .ok (.iload_n 1, 1) := by decide +kernel
theorem d_P_putFilled_5 : decode m_P_putFilled.2.1 5 = .ok (.iconst 2, 1) := by decide +kernel
theorem d_P_putFilled_6 : decode m_P_putFilled.2.1 6 = .ok (.invokevirtual 32, 3) := by decide +kernel
theorem d_P_putFilled_9 : decode m_P_putFilled.2.1 9 = .ok (.istore_n 3, 1) := by decide +kernel
theorem d_P_putFilled_10 : decode m_P_putFilled.2.1 10 = .ok (.aload_n 0, 1) := by decide +kernel
theorem d_P_putFilled_11 : decode m_P_putFilled.2.1 11 = .ok (.getfield 21, 3) := by decide +kernel
theorem d_P_putFilled_14 : decode m_P_putFilled.2.1 14 = .ok (.iload_n 3, 1) := by decide +kernel
theorem d_P_putFilled_15 : decode m_P_putFilled.2.1 15 = .ok (.invokevirtual 59, 3) := by decide +kernel
theorem d_P_putFilled_18 : decode m_P_putFilled.2.1 18 = .ok (.iconst 2, 1) := by decide +kernel
theorem d_P_putFilled_19 : decode m_P_putFilled.2.1 19 = .ok (.if_icmp .ne 7, 3) := by decide +kernel
theorem d_P_putFilled_22 : decode m_P_putFilled.2.1 22 = .ok (.iconst 1, 1) := by decide +kernel
theorem d_P_putFilled_23 : decode m_P_putFilled.2.1 23 = .ok (.goto 4, 3) := by decide +kernel
theorem d_P_putFilled_26 : decode m_P_putFilled.2.1 26 = .ok (.iconst 0, 1) := by decide +kernel
theorem d_P_putFilled_27 : decode m_P_putFilled.2.1 27 = .ok (.istore 4, 2) := by decide +kernel
theorem d_P_putFilled_29 : decode m_P_putFilled.2.1 29 = .ok (.iload 4, 2) := by decide +kernel
theorem d_P_putFilled_31 : decode m_P_putFilled.2.1 31 = .ok (.ifCond .eq 9, 3) := by decide +kernel
theorem d_P_putFilled_34 : decode m_P_putFilled.2.1 34 = .ok (.aload_n 0, 1) := by decide +kernel
theorem d_P_putFilled_35 : decode m_P_putFilled.2.1 35 = .ok (.bipush 78, 2) := by decide +kernel
theorem d_P_putFilled_37 : decode m_P_putFilled.2.1 37 = .ok (.invokevirtual 29, 3) := by decide +kernel
theorem d_P_putFilled_40 : decode m_P_putFilled.2.1 40 = .ok (.aload_n 0, 1) := by decide +kernel
theorem d_P_putFilled_41 : decode m_P_putFilled.2.1 41 = .ok (.iload_n 3, 1) := by decide +kernel
theorem d_P_putFilled_42 : decode m_P_putFilled.2.1 42 = .ok (.iload_n 2, 1) := by decide +kernel
theorem d_P_putFilled_43 : decode m_P_putFilled.2.1 43 = .ok (.iconst 1, 1) := by decide +kernel
theorem d_P_putFilled_44 : decode m_P_putFilled.2.1 44 = .ok (.iadd, 1) := by decide +kernel
theorem d_P_putFilled_45 : decode m_P_putFilled.2.1 45 = .ok (.invokevirtual 72, 3) := by decide +kernel
theorem d_P_putFilled_48 : decode m_P_putFilled.2.1 48 = .ok (.aload_n 0, 1) := by decide +kernel
theorem d_P_putFilled_49 : decode m_P_putFilled.2.1 49 = .ok (.iload_n 1, 1) := by decide +kernel
theorem d_P_putFilled_50 : decode m_P_putFilled.2.1 50 = .ok (.iload_n 2, 1) := by decide +kernel
theorem d_P_putFilled_51 : decode m_P_putFilled.2.1 51 = .ok (.iconst 1, 1) := by decide +kernel
theorem d_P_putFilled_52 : decode m_P_putFilled.2.1 52 = .ok (.iadd, 1) := by decide +kernel
theorem d_P_putFilled_53 : decode m_P_putFilled.2.1 53 = .ok (.invokevirtual 78, 3) := by decide +kernel
theorem d_P_putFilled_56 : decode m_P_putFilled.2.1 56 = .ok (.iload 4, 2) := by decide +kernel
theorem d_P_putFilled_58 : decode m_P_putFilled.2.1 58 = .ok (.ifCond .eq 9, 3) := by decide +kernel
theorem d_P_putFilled_61 : decode m_P_putFilled.2.1 61 = .ok (.aload_n 0, 1) := by decide +kernel
theorem d_P_putFilled_62 : decode m_P_putFilled.2.1 62 = .ok (.bipush 69, 2) := by decide +kernel
theorem d_P_putFilled_64 : decode m_P_putFilled.2.1 64 = .ok (.invokevirtual 29, 3) := by decide +kernel
theorem d_P_putFilled_67 : decode m_P_putFilled.2.1 67 = .ok (.return_, 1) := by decide +kernel
theorem d_P_putWrapping_0 : decode m_P_putWrapping.2.1 0 = .ok (.iload_n 1, 1) := by decide +kernel
theorem d_P_putWrapping_1 : decode m_P_putWrapping.2.1 1 = .ok (.iconst 4, 1) := by decide +kernel
theorem d_P_putWrapping_2 : decode m_P_putWrapping.2.1 2 = .ok (.isub, 1) := by decide +kernel
theorem d_P_putWrapping_3 : decode m_P_putWrapping.2.1 3 = .ok (.istore_n 2, 1) := by decide +kernel
theorem d_P_putWrapping_4 : decode m_P_putWrapping.2.1 4 = .ok (.iload_n 2, 1) := by decide +kernel
theorem d_P_putWrapping_5 : decode m_P_putWrapping.2.1 5 = .ok (.ifCond .lt 22, 3) := by decide +kernel
theorem d_P_putWrapping_8 : decode m_P_putWrapping.2.1 8 = .ok (.iload_n 2, 1) := by decide +kernel
theorem d_P_putWrapping_9 : decode m_P_putWrapping.2.1 9 = .ok (.ldc 112, 2) := by decide +kernel
theorem d_P_putWrapping_11 : decode m_P_putWrapping.2.1 11 = .ok (.invokevirtual 102, 3) := by decide +kernel
theorem d_P_putWrapping_14 : decode m_P_putWrapping.2.1 14 = .ok (.if_icmp .ge 13, 3) := by decide +kernel
theorem d_P_putWrapping_17 : decode m_P_putWrapping.2.1 17 = .ok (.aload_n 0, 1) := by decide +kernel
theorem d_P_putWrapping_18 : decode m_P_putWrapping.2.1 18 = .ok (.ldc 112, 2) := by decide +kernel
theorem d_P_putWrapping_20 : decode m_P_putWrapping.2.1 20 = .ok (.iload_n 2, 1) := by decide +kernel
theorem d_P_putWrapping_21 : decode m_P_putWrapping.2.1 21 = .ok (.invokevirtual 108, 3) := by decide +kernel
theorem d_P_putWrapping_24 : decode m_P_putWrapping.2.1 24 = .ok (.invokevirtual 29, 3) := by decide +kernel
theorem d_P_putWrapping_27 : decode m_P_putWrapping.2.1 27 = .ok (.return_, 1) := by decide +kernel
theorem d_P_putParameters_0 : decode m_P_putParameters.2.1 0 = .ok (.aload_n 0, 1) := by decide +kernel
theorem d_P_putParameters_1 : decode m_P_putParameters.2.1 1 = .ok (.getfield 21, 3) := by decide +kernel
theorem d_P_putParameters_4 : decode m_P_putParameters.2.1 4 = .ok (.iload_n 1, 1) := by decide +kernel
theorem d_P_putParameters_5 : decode m_P_putParameters.2.1 5 = .ok (.iconst 4, 1) := by decide +kernel
theorem d_P_putParameters_6 : decode m_P_putParameters.2.1 6 = .ok (.invokevirtual 32, 3) := by decide +kernel
theorem d_P_putParameters_9 : decode m_P_putParameters.2.1 9 = .ok (.iconst (-1), 1) := by decide +kernel
theorem d_P_putParameters_10 : decode m_P_putParameters.2.1 10 = .ok (.if_icmp .ne 9, 3) := by decide +kernel
theorem d_P_putParameters_13 : decode m_P_putParameters.2.1 13 = .ok (.aload_n 0, 1) := by decide +kernel
theorem d_P_putParameters_14 : decode m_P_putParameters.2.1 14 = .ok (.bipush 118, 2) := by decide +kernel
theorem d_P_putParameters_16 : decode m_P_putParameters.2.1 16 = .ok (.invokevirtual 29, 3) := by decide +kernel
theorem d_P_putParameters_19 : decode m_P_putParameters.2.1 19 = .ok (.iconst 4, 1) := by decide +kernel
theorem d_P_putParameters_20 : decode m_P_putParameters.2.1 20 = .ok (.istore_n 3, 1) := by decide +kernel
theorem d_P_putParameters_21 : decode m_P_putParameters.2.1 21 = .ok (.iload_n 3, 1) := by decide +kernel
theorem d_P_putParameters_22 : decode m_P_putParameters.2.1 22 = .ok (.bipush 6, 2) := by decide +kernel
theorem d_P_putParameters_24 : decode m_P_putParameters.2.1 24 = .ok (.if_icmp .gt 33, 3) := by decide +kernel
theorem d_P_putParameters_27 : decode m_P_putParameters.2.1 27 = .ok (.aload_n 0, 1) := by decide +kernel
theorem d_P_putParameters_28 : decode m_P_putParameters.2.1 28 = .ok (.getfield 21, 3) := by decide +kernel
theorem d_P_putParameters_31 : decode m_P_putParameters.2.1 31 = .ok (.iload_n 1, 1) := by decide +kernel
theorem d_P_putParameters_32 : decode m_P_putParameters.2.1 32 = .ok (.iload_n 3, 1) := by decide +kernel
theorem d_P_putParameters_33 : decode m_P_putParameters.2.1 33 = .ok (.invokevirtual 32, 3) := by decide +kernel
theorem d_P_putParameters_36 : decode m_P_putParameters.2.1 36 = .ok (.istore 4, 2) := by decide +kernel
theorem d_P_putParameters_38 : decode m_P_putParameters.2.1 38 = .ok (.iload 4, 2) := by decide +kernel
theorem d_P_putParameters_40 : decode m_P_putParameters.2.1 40 = .ok (.iconst (-1), 1) := by decide +kernel
theorem d_P_putParameters_41 : decode m_P_putParameters.2.1 41 = .ok (.if_icmp .eq 10, 3) := by decide +kernel
theorem d_P_putParameters_44 : decode m_P_putParameters.2.1 44 = .ok (.aload_n 0, 1) := by decide +kernel
theorem d_P_putParameters_45 : decode m_P_putParameters.2.1 45 = .ok (.iload 4, 2) := by decide +kernel
theorem d_P_putParameters_47 : decode m_P_putParameters.2.1 47 = .ok (.iload_n 2, 1) := by decide +kernel
theorem d_P_putParameters_48 : decode m_P_putParameters.2.1 48 = .ok (.invokevirtual 42, 3) := by decide +kernel
theorem d_P_putParameters_51 : decode m_P_putParameters.2.1 51 = .ok (.iinc 3 1, 3) := by decide +kernel
theorem d_P_putParameters_54 : decode m_P_putParameters.2.1 54 = .ok (.goto (-33), 3) := by decide +kernel
theorem d_P_putParameters_57 : decode m_P_putParameters.2.1 57 = .ok (.return_, 1) := by decide +kernel
theorem d_W_take_0 : decode m_W_take.2.1 0 = .ok (.aload_n 1, 1) := by decide +kernel
theorem d_W_take_1 : decode m_W_take.2.1 1 = .ok (.getfield 9, 3) := by decide +kernel
theorem d_W_take_4 : decode m_W_take.2.1 4 = .ok (.iconst 0, 1) := by decide +kernel
theorem d_W_take_5 : decode m_W_take.2.1 5 = .ok (.aload_n 0, 1) := by decide +kernel
theorem d_W_take_6 : decode m_W_take.2.1 6 = .ok (.getfield 9, 3) := by decide +kernel
theorem d_W_take_9 : decode m_W_take.2.1 9 = .ok (.iconst 0, 1) := by decide +kernel
theorem d_W_take_10 : decode m_W_take.2.1 10 = .ok (.bipush 120, 2) := by decide +kernel
theorem d_W_take_12 : decode m_W_take.2.1 12 = .ok (.invokestatic 28, 3) := by decide +kernel
theorem d_W_take_15 : decode m_W_take.2.1 15 = .ok (.aload_n 0, 1) := by decide +kernel
theorem d_W_take_16 : decode m_W_take.2.1 16 = .ok (.aload_n 1, 1) := by decide +kernel
theorem d_W_take_17 : decode m_W_take.2.1 17 = .ok (.getfield 15, 3) := by decide +kernel
theorem d_W_take_20 : decode m_W_take.2.1 20 = .ok (.putfield 15, 3) := by decide +kernel
theorem d_W_take_23 : decode m_W_take.2.1 23 = .ok (.return_, 1) := by decide +kernel
theorem d_L_read_0 : decode m_L_read.2.1 0 = .ok (.aload_n 1, 1) := by decide +kernel
theorem d_L_read_1 : decode m_L_read.2.1 1 = .ok (.iconst 0, 1) := by decide +kernel
theorem d_L_read_2 : decode m_L_read.2.1 2 = .ok (.aload_n 0, 1) := by decide +kernel
theorem d_L_read_3 : decode m_L_read.2.1 3 = .ok (.invokevirtual 49, 3) := by decide +kernel
theorem d_L_read_6 : decode m_L_read.2.1 6 = .ok (.i2l, 1) := by decide +kernel
theorem d_L_read_7 : decode m_L_read.2.1 7 = .ok (.lastore, 1) := by decide +kernel
theorem d_L_read_8 : decode m_L_read.2.1 8 = .ok (.goto 9, 3) := by decide +kernel
theorem d_L_read_11 : decode m_L_read.2.1 11 = .ok (.astore_n 2, 1) := by decide +kernel
theorem d_L_read_12 : decode m_L_read.2.1 12 = .ok (.iconst 1, 1) := by decide +kernel
theorem d_L_read_13 : decode m_L_read.2.1 13 = .ok (.ireturn, 1) := by decide +kernel
theorem d_L_read_14 : decode m_L_read.2.1 14 = .ok (.astore_n 2, 1) := by decide +kernel
theorem d_L_read_15 : decode m_L_read.2.1 15 = .ok (.iconst 2, 1) := by decide +kernel
theorem d_L_read_16 : decode m_L_read.2.1 16 = .ok (.ireturn, 1) := by decide +kernel
theorem d_L_read_17 : decode m_L_read.2.1 17 = .ok (.iconst 0, 1) := by decide +kernel
theorem d_L_read_18 : decode m_L_read.2.1 18 = .ok (.ireturn, 1) := by decide +kernel
theorem d_N_read_0 : decode m_N_read.2.1 0 = .ok (.aload_n 0, 1) := by decide +kernel
theorem d_N_read_1 : decode m_N_read.2.1 1 = .ok (.getfield 13, 3) := by decide +kernel
theorem d_N_read_4 : decode m_N_read.2.1 4 = .ok (.invokevirtual 44, 3) := by decide +kernel
theorem d_N_read_7 : decode m_N_read.2.1 7 = .ok (.aload_n 0, 1) := by decide +kernel
theorem d_N_read_8 : decode m_N_read.2.1 8 = .ok (.getfield 13, 3) := by decide +kernel
theorem d_N_read_11 : decode m_N_read.2.1 11 = .ok (.aload_n 0, 1) := by decide +kernel
theorem d_N_read_12 : decode m_N_read.2.1 12 = .ok (.getfield 40, 3) := by decide +kernel
theorem d_N_read_15 : decode m_N_read.2.1 15 = .ok (.invokevirtual 125, 3) := by decide +kernel
theorem d_N_read_18 : decode m_N_read.2.1 18 = .ok (.invokevirtual 51, 3) := by decide +kernel
theorem d_N_read_21 : decode m_N_read.2.1 21 = .ok (.istore_n 1, 1) := by decide +kernel
theorem d_N_read_22 : decode m_N_read.2.1 22 = .ok (.aload_n 0, 1) := by decide +kernel
theorem d_N_read_23 : decode m_N_read.2.1 23 = .ok (.getfield 23, 3) := by decide +kernel
theorem d_N_read_26 : decode m_N_read.2.1 26 = .ok (.aload_n 0, 1) := by decide +kernel
theorem d_N_read_27 : decode m_N_read.2.1 27 = .ok (.getfield 40, 3) := by decide +kernel
theorem d_N_read_30 : decode m_N_read.2.1 30 = .ok (.getfield 128, 3) := by decide +kernel
theorem d_N_read_33 : decode m_N_read.2.1 33 = .ok (.invokevirtual 101, 3) := by decide +kernel
theorem d_N_read_36 : decode m_N_read.2.1 36 = .ok (.iload_n 1, 1) := by decide +kernel
theorem d_N_read_37 : decode m_N_read.2.1 37 = .ok (.ireturn, 1) := by decide +kernel
theorem d_R_readEntity_0 : decode m_R_readEntity.2.1 0 = .ok (.aload_n 0, 1) := by decide +kernel
theorem d_R_readEntity_1 : decode m_R_readEntity.2.1 1 = .ok (.iconst 0, 1) := by decide +kernel
theorem d_R_readEntity_2 : decode m_R_readEntity.2.1 2 = .ok (.putfield 25, 3) := by decide +kernel
theorem d_R_readEntity_5 : decode m_R_readEntity.2.1 5 = .ok (.aload_n 0, 1) := by decide +kernel
theorem d_R_readEntity_6 : decode m_R_readEntity.2.1 6 = .ok (.getfield 12, 3) := by decide +kernel
theorem d_R_readEntity_9 : decode m_R_readEntity.2.1 9 = .ok (.iconst 0, 1) := by decide +kernel
theorem d_R_readEntity_10 : decode m_R_readEntity.2.1 10 = .ok (.invokevirtual 29, 3) := by decide +kernel
theorem d_R_readEntity_13 : decode m_R_readEntity.2.1 13 = .ok (.aload_n 0, 1) := by decide +kernel
theorem d_R_readEntity_14 : decode m_R_readEntity.2.1 14 = .ok (.bipush 95, 2) := by decide +kernel
theorem d_R_readEntity_16 : decode m_R_readEntity.2.1 16 = .ok (.invokevirtual 33, 3) := by decide +kernel
theorem d_R_readEntity_19 : decode m_R_readEntity.2.1 19 = .ok (.aload_n 0, 1) := by decide +kernel
theorem d_R_readEntity_20 : decode m_R_readEntity.2.1 20 = .ok (.bipush 90, 2) := by decide +kernel
theorem d_R_readEntity_22 : decode m_R_readEntity.2.1 22 = .ok (.invokevirtual 33, 3) := by decide +kernel
theorem d_R_readEntity_25 : decode m_R_readEntity.2.1 25 = .ok (.aload_n 0, 1) := by decide +kernel
theorem d_R_readEntity_26 : decode m_R_readEntity.2.1 26 = .ok (.iconst 1, 1) := by decide +kernel
theorem d_R_readEntity_27 : decode m_R_readEntity.2.1 27 = .ok (.invokevirtual 36, 3) := by decide +kernel
theorem d_R_readEntity_30 : decode m_R_readEntity.2.1 30 = .ok (.istore_n 1, 1) := by decide +kernel
theorem d_R_readEntity_31 : decode m_R_readEntity.2.1 31 = .ok (.aload_n 0, 1) := by decide +kernel
theorem d_R_readEntity_32 : decode m_R_readEntity.2.1 32 = .ok (.getfield 18, 3) := by decide +kernel
theorem d_R_readEntity_35 : decode m_R_readEntity.2.1 35 = .ok (.iload_n 1, 1) := by decide +kernel
theorem d_R_readEntity_36 : decode m_R_readEntity.2.1 36 = .ok (.invokevirtual 40, 3) := by decide +kernel
theorem d_R_readEntity_39 : decode m_R_readEntity.2.1 39 = .ok (.iconst 3, 1) := by decide +kernel
theorem d_R_readEntity_40 : decode m_R_readEntity.2.1 40 = .ok (.if_icmp .ne 11, 3) := by decide +kernel
theorem d_R_readEntity_43 : decode m_R_readEntity.2.1 43 = .ok (.aload_n 0, 1) := by decide +kernel
theorem d_R_readEntity_44 : decode m_R_readEntity.2.1 44 = .ok (.iconst 1, 1) := by decide +kernel
theorem d_R_readEntity_45 : decode m_R_readEntity.2.1 45 = .ok (.invokevirtual 45, 3) := by decide +kernel
theorem d_R_readEntity_48 : decode m_R_readEntity.2.1 48 = .ok (.goto 4, 3) := by decide +kernel
theorem d_R_readEntity_51 : decode m_R_readEntity.2.1 51 = .ok (.iconst (-1), 1) := by decide +kernel
theorem d_R_readEntity_52 : decode m_R_readEntity.2.1 52 = .ok (.istore_n 2, 1) := by decide +kernel
theorem d_R_readEntity_53 : decode m_R_readEntity.2.1 53 = .ok (.aload_n 0, 1) := by decide +kernel
theorem d_R_readEntity_54 : decode m_R_readEntity.2.1 54 = .ok (.iconst 1, 1) := by decide +kernel
theorem d_R_readEntity_55 : decode m_R_readEntity.2.1 55 = .ok (.invokevirtual 48, 3) := by decide +kernel
theorem d_R_readEntity_58 : decode m_R_readEntity.2.1 58 = .ok (.istore_n 3, 1) := by decide +kernel
theorem d_R_readEntity_59 : decode m_R_readEntity.2.1 59 = .ok (.aload_n 0, 1) := by decide +kernel
theorem d_R_readEntity_60 : decode m_R_readEntity.2.1 60 = .ok (.iload_n 3, 1) := by decide +kernel
theorem d_R_readEntity_61 : decode m_R_readEntity.2.1 61 = .ok (.iconst (-1), 1) := by decide +kernel
theorem d_R_readEntity_62 : decode m_R_readEntity.2.1 62 = .ok (.iconst 1, 1) := by decide +kernel
theorem d_R_readEntity_63 : decode m_R_readEntity.2.1 63 = .ok (.invokevirtual 51, 3) := by decide +kernel
theorem d_R_readEntity_66 : decode m_R_readEntity.2.1 66 = .ok (.istore 4, 2) := by decide +kernel
theorem d_R_readEntity_68 : decode m_R_readEntity.2.1 68 = .ok (.aload_n 0, 1) := by decide +kernel
theorem d_R_readEntity_69 : decode m_R_readEntity.2.1 69 = .ok (.iload 4, 2) := by decide +kernel
theorem d_R_readEntity_71 : decode m_R_readEntity.2.1 71 = .ok (.iconst (-1), 1) := by decide +kernel
theorem d_R_readEntity_72 : decode m_R_readEntity.2.1 72 = .ok (.iconst 1, 1) := by decide +kernel
theorem d_R_readEntity_73 : decode m_R_readEntity.2.1 73 = .ok (.invokevirtual 51, 3) := by decide +kernel
theorem d_R_readEntity_76 : decode m_R_readEntity.2.1 76 = .ok (.istore 5, 2) := by decide +kernel
theorem d_R_readEntity_78 : decode m_R_readEntity.2.1 78 = .ok (.aload_n 0, 1) := by decide +kernel
theorem d_R_readEntity_79 : decode m_R_readEntity.2.1 79 = .ok (.invokevirtual 55, 3) := by decide +kernel
theorem d_R_readEntity_82 : decode m_R_readEntity.2.1 82 = .ok (.iconst (-1), 1) := by decide +kernel
theorem d_R_readEntity_83 : decode m_R_readEntity.2.1 83 = .ok (.if_icmp .ne 7, 3) := by decide +kernel
theorem d_R_readEntity_86 : decode m_R_readEntity.2.1 86 = .ok (.iconst 1, 1) := by decide +kernel
theorem d_R_readEntity_87 : decode m_R_readEntity.2.1 87 = .ok (.goto 4, 3) := by decide +kernel
theorem d_R_readEntity_90 : decode m_R_readEntity.2.1 90 = .ok (.iconst 0, 1) := by decide +kernel
theorem d_R_readEntity_91 : decode m_R_readEntity.2.1 91 = .ok (.invokestatic 59, 3) := by decide +kernel
theorem d_R_readEntity_94 : decode m_R_readEntity.2.1 94 = .ok (.aload_n 0, 1) := by decide +kernel
theorem d_R_readEntity_95 : decode m_R_readEntity.2.1 95 = .ok (.getfield 18, 3) := by decide +kernel
theorem d_R_readEntity_98 : decode m_R_readEntity.2.1 98 = .ok (.iload_n 1, 1) := by decide +kernel
theorem d_R_readEntity_99 : decode m_R_readEntity.2.1 99 = .ok (.iload_n 2, 1) := by decide +kernel
theorem d_R_readEntity_100 : decode m_R_readEntity.2.1 100 = .ok (.iload_n 3, 1) := by decide +kernel
theorem d_R_readEntity_101 : decode m_R_readEntity.2.1 101 = .ok (.iload 4, 2) := by decide +kernel
theorem d_R_readEntity_103 : decode m_R_readEntity.2.1 103 = .ok (.iload 5, 2) := by decide +kernel
theorem d_R_readEntity_105 : decode m_R_readEntity.2.1 105 = .ok (.invokevirtual 63, 3) := by decide +kernel
theorem d_R_readEntity_108 : decode m_R_readEntity.2.1 108 = .ok (.ireturn, 1) := by decide +kernel
theorem d_R_pass_0 : decode m_R_pass.2.1 0 = .ok (.aload_n 0, 1) := by decide +kernel
theorem d_R_pass_1 : decode m_R_pass.2.1 1 = .ok (.invokevirtual 55, 3) := by decide +kernel
theorem d_R_pass_4 : decode m_R_pass.2.1 4 = .ok (.iload_n 1, 1) := by decide +kernel
theorem d_R_pass_5 : decode m_R_pass.2.1 5 = .ok (.if_icmp .ne 7, 3) := by decide +kernel
theorem d_R_pass_8 : decode m_R_pass.2.1 8 = .ok (.iconst 1, 1) := by decide +kernel
theorem d_R_pass_9 : decode m_R_pass.2.1 9 = .ok (.goto 4, 3) := by decide +kernel
theorem d_R_pass_12 : decode m_R_pass.2.1 12 = .ok (.iconst 0, 1) := by decide +kernel
theorem d_R_pass_13 : decode m_R_pass.2.1 13 = .ok (.invokestatic 59, 3) := by decide +kernel
theorem d_R_pass_16 : decode m_R_pass.2.1 16 = .ok (.aload_n 0, 1) := by decide +kernel
theorem d_R_pass_17 : decode m_R_pass.2.1 17 = .ok (.dup, 1) := by decide +kernel
theorem d_R_pass_18 : decode m_R_pass.2.1 18 = .ok (.getfield 25, 3) := by decide +kernel
theorem d_R_pass_21 : decode m_R_pass.2.1 21 = .ok (.iconst 1, 1) := by decide +kernel
theorem d_R_pass_22 : decode m_R_pass.2.1 22 = .ok (.iadd, 1) := by decide +kernel
theorem d_R_pass_23 : decode m_R_pass.2.1 23 = .ok (.putfield 25, 3) := by decide +kernel
theorem d_R_pass_26 : decode m_R_pass.2.1 26 = .ok (.return_, 1) := by decide +kernel
theorem d_R_next_0 : decode m_R_next.2.1 0 = .ok (.aload_n 0, 1) := by decide +kernel
theorem d_R_next_1 : decode m_R_next.2.1 1 = .ok (.getfield 22, 3) := by decide +kernel
theorem d_R_next_4 : decode m_R_next.2.1 4 = .ok (.aload_n 0, 1) := by decide +kernel
theorem d_R_next_5 : decode m_R_next.2.1 5 = .ok (.getfield 25, 3) := by decide +kernel
theorem d_R_next_8 : decode m_R_next.2.1 8 = .ok (.invokevirtual 74, 3) := by decide +kernel
theorem d_R_next_11 : decode m_R_next.2.1 11 = .ok (.ireturn, 1) := by decide +kernel
theorem d_R_need_0 : decode m_R_need.2.1 0 = .ok (.iload_n 0, 1) := by decide +kernel
theorem d_R_need_1 : decode m_R_need.2.1 1 = .ok (.ifCond .ne 13, 3) := by decide +kernel
theorem d_R_need_4 : decode m_R_need.2.1 4 = .ok (.new 67, 3) := by decide +kernel
theorem d_R_need_7 : decode m_R_need.2.1 7 = .ok (.dup, 1) := by decide +kernel
theorem d_R_need_8 : decode m_R_need.2.1 8 = .ok (.ldc 69, 2) := by decide +kernel
theorem d_R_need_10 : decode m_R_need.2.1 10 = .ok (.invokespecial 71, 3) := by decide +kernel
theorem d_R_need_13 : decode m_R_need.2.1 13 = .ok (.athrow, 1) := by decide +kernel
theorem d_R_need_14 : decode m_R_need.2.1 14 = .ok (.return_, 1) := by decide +kernel
theorem d_R_readScoped_0 : decode m_R_readScoped.2.1 0 = .ok (.aload_n 0, 1) := by decide +kernel
theorem d_R_readScoped_1 : decode m_R_readScoped.2.1 1 = .ok (.invokevirtual 55, 3) := by decide +kernel
theorem d_R_readScoped_4 : decode m_R_readScoped.2.1 4 = .ok (.bipush 78, 2) := by decide +kernel
theorem d_R_readScoped_6 : decode m_R_readScoped.2.1 6 = .ok (.if_icmp .ne 9, 3) := by decide +kernel
theorem d_R_readScoped_9 : decode m_R_readScoped.2.1 9 = .ok (.aload_n 0, 1) := by decide +kernel
theorem d_R_readScoped_10 : decode m_R_readScoped.2.1 10 = .ok (.iload_n 1, 1) := by decide +kernel
theorem d_R_readScoped_11 : decode m_R_readScoped.2.1 11 = .ok (.invokevirtual 122, 3) := by decide +kernel
theorem d_R_readScoped_14 : decode m_R_readScoped.2.1 14 = .ok (.ireturn, 1) := by decide +kernel
theorem d_R_readScoped_15 : decode m_R_readScoped.2.1 15 = .ok (.aload_n 0, 1) := by decide +kernel
theorem d_R_readScoped_16 : decode m_R_readScoped.2.1 16 = .ok (.getfield 18, 3) := by decide +kernel
theorem d_R_readScoped_19 : decode m_R_readScoped.2.1 19 = .ok (.aload_n 0, 1) := by decide +kernel
theorem d_R_readScoped_20 : decode m_R_readScoped.2.1 20 = .ok (.invokevirtual 125, 3) := by decide +kernel
theorem d_R_readScoped_23 : decode m_R_readScoped.2.1 23 = .ok (.invokevirtual 128, 3) := by decide +kernel
theorem d_R_readScoped_26 : decode m_R_readScoped.2.1 26 = .ok (.istore_n 2, 1) := by decide +kernel
theorem d_R_readScoped_27 : decode m_R_readScoped.2.1 27 = .ok (.aload_n 0, 1) := by decide +kernel
theorem d_R_readScoped_28 : decode m_R_readScoped.2.1 28 = .ok (.invokevirtual 55, 3) := by decide +kernel
theorem d_R_readScoped_31 : decode m_R_readScoped.2.1 31 = .ok (.bipush 73, 2) := by decide +kernel
theorem d_R_readScoped_33 : decode m_R_readScoped.2.1 33 = .ok (.if_icmp .eq 5, 3) := by decide +kernel
theorem d_R_readScoped_36 : decode m_R_readScoped.2.1 36 = .ok (.iload_n 2, 1) := by decide +kernel
theorem d_R_readScoped_37 : decode m_R_readScoped.2.1 37 = .ok (.ireturn, 1) := by decide +kernel
theorem d_R_readScoped_38 : decode m_R_readScoped.2.1 38 = .ok (.aload_n 0, 1) := by decide +kernel
theorem d_R_readScoped_39 : decode m_R_readScoped.2.1 39 = .ok (.getfield 12, 3) := by decide +kernel
theorem d_R_readScoped_42 : decode m_R_readScoped.2.1 42 = .ok (.iload_n 2, 1) := by decide +kernel
theorem d_R_readScoped_43 : decode m_R_readScoped.2.1 43 = .ok (.invokevirtual 89, 3) := by decide +kernel
theorem d_R_readScoped_46 : decode m_R_readScoped.2.1 46 = .ok (.pop, 1) := by decide +kernel
theorem d_R_readScoped_47 : decode m_R_readScoped.2.1 47 = .ok (.aload_n 0, 1) := by decide +kernel
theorem d_R_readScoped_48 : decode m_R_readScoped.2.1 48 = .ok (.iload_n 2, 1) := by decide +kernel
theorem d_R_readScoped_49 : decode m_R_readScoped.2.1 49 = .ok (.iload_n 1, 1) := by decide +kernel
theorem d_R_readScoped_50 : decode m_R_readScoped.2.1 50 = .ok (.invokevirtual 96, 3) := by decide +kernel
theorem d_R_readScoped_53 : decode m_R_readScoped.2.1 53 = .ok (.ireturn, 1) := by decide +kernel
theorem d_R_readNested_0 : decode m_R_readNested.2.1 0 = .ok (.aload_n 0, 1) := by decide +kernel
theorem d_R_readNested_1 : decode m_R_readNested.2.1 1 = .ok (.bipush 78, 2) := by decide +kernel
theorem d_R_readNested_3 : decode m_R_readNested.2.1 3 = .ok (.invokevirtual 33, 3) := by decide +kernel
theorem d_R_readNested_6 : decode m_R_readNested.2.1 6 = .ok (.aload_n 0, 1) := by decide +kernel
theorem d_R_readNested_7 : decode m_R_readNested.2.1 7 = .ok (.invokevirtual 131, 3) := by decide +kernel
theorem d_R_readNested_10 : decode m_R_readNested.2.1 10 = .ok (.istore_n 2, 1) := by decide +kernel
theorem d_R_readNested_11 : decode m_R_readNested.2.1 11 = .ok (.aload_n 0, 1) := by decide +kernel
theorem d_R_readNested_12 : decode m_R_readNested.2.1 12 = .ok (.iload_n 2, 1) := by decide +kernel
theorem d_R_readNested_13 : decode m_R_readNested.2.1 13 = .ok (.iload_n 1, 1) := by decide +kernel
theorem d_R_readNested_14 : decode m_R_readNested.2.1 14 = .ok (.invokevirtual 134, 3) := by decide +kernel
theorem d_R_readNested_17 : decode m_R_readNested.2.1 17 = .ok (.istore_n 2, 1) := by decide +kernel
theorem d_R_readNested_18 : decode m_R_readNested.2.1 18 = .ok (.iconst 1, 1) := by decide +kernel
theorem d_R_readNested_19 : decode m_R_readNested.2.1 19 = .ok (.istore_n 3, 1) := by decide +kernel
theorem d_R_readNested_20 : decode m_R_readNested.2.1 20 = .ok (.iload_n 3, 1) := by decide +kernel
theorem d_R_readNested_21 : decode m_R_readNested.2.1 21 = .ok (.bipush 120, 2) := by decide +kernel
theorem d_R_readNested_23 : decode m_R_readNested.2.1 23 = .ok (.if_icmp .ge 34, 3) := by decide +kernel
theorem d_R_readNested_26 : decode m_R_readNested.2.1 26 = .ok (.aload_n 0, 1) := by decide +kernel
theorem d_R_readNested_27 : decode m_R_readNested.2.1 27 = .ok (.invokevirtual 55, 3) := by decide +kernel
theorem d_R_readNested_30 : decode m_R_readNested.2.1 30 = .ok (.bipush 69, 2) := by decide +kernel
theorem d_R_readNested_32 : decode m_R_readNested.2.1 32 = .ok (.if_icmp .eq 25, 3) := by decide +kernel
theorem d_R_readNested_35 : decode m_R_readNested.2.1 35 = .ok (.aload_n 0, 1) := by decide +kernel
theorem d_R_readNested_36 : decode m_R_readNested.2.1 36 = .ok (.getfield 12, 3) := by decide +kernel
theorem d_R_readNested_39 : decode m_R_readNested.2.1 39 = .ok (.iload_n 2, 1) := by decide +kernel
theorem d_R_readNested_40 : decode m_R_readNested.2.1 40 = .ok (.invokevirtual 89, 3) := by decide +kernel
theorem d_R_readNested_43 : decode m_R_readNested.2.1 43 = .ok (.pop, 1) := by decide +kernel
theorem d_R_readNested_44 : decode m_R_readNested.2.1 44 = .ok (.aload_n 0, 1) := by decide +kernel
theorem d_R_readNested_45 : decode m_R_readNested.2.1 45 = .ok (.iload_n 2, 1) := by decide +kernel
theorem d_R_readNested_46 : decode m_R_readNested.2.1 46 = .ok (.iload_n 1, 1) := by decide +kernel
theorem d_R_readNested_47 : decode m_R_readNested.2.1 47 = .ok (.invokevirtual 134, 3) := by decide +kernel
theorem d_R_readNested_50 : decode m_R_readNested.2.1 50 = .ok (.istore_n 2, 1) := by decide +kernel
theorem d_R_readNested_51 : decode m_R_readNested.2.1 51 = .ok (.iinc 3 1, 3) := by decide +kernel
theorem d_R_readNested_54 : decode m_R_readNested.2.1 54 = .ok (.goto (-34), 3) := by decide +kernel
theorem d_R_readNested_57 : decode m_R_readNested.2.1 57 = .ok (.aload_n 0, 1) := by decide +kernel
theorem d_R_readNested_58 : decode m_R_readNested.2.1 58 = .ok (.bipush 69, 2) := by decide +kernel
theorem d_R_readNested_60 : decode m_R_readNested.2.1 60 = .ok (.invokevirtual 33, 3) := by decide +kernel
theorem d_R_readNested_63 : decode m_R_readNested.2.1 63 = .ok (.aload_n 0, 1) := by decide +kernel
theorem d_R_readNested_64 : decode m_R_readNested.2.1 64 = .ok (.getfield 18, 3) := by decide +kernel
theorem d_R_readNested_67 : decode m_R_readNested.2.1 67 = .ok (.iload_n 2, 1) := by decide +kernel
theorem d_R_readNested_68 : decode m_R_readNested.2.1 68 = .ok (.invokevirtual 40, 3) := by decide +kernel
theorem d_R_readNested_71 : decode m_R_readNested.2.1 71 = .ok (.iconst 2, 1) := by decide +kernel
theorem d_R_readNested_72 : decode m_R_readNested.2.1 72 = .ok (.if_icmp .eq 23, 3) := by decide +kernel
theorem d_R_readNested_75 : decode m_R_readNested.2.1 75 = .ok (.aload_n 0, 1) := by decide +kernel
theorem d_R_readNested_76 : decode m_R_readNested.2.1 76 = .ok (.getfield 18, 3) := by decide +kernel
theorem d_R_readNested_79 : decode m_R_readNested.2.1 79 = .ok (.aload_n 0, 1) := by decide +kernel
theorem d_R_readNested_80 : decode m_R_readNested.2.1 80 = .ok (.getfield 18, 3) := by decide +kernel
theorem d_R_readNested_83 : decode m_R_readNested.2.1 83 = .ok (.iload_n 2, 1) := by decide +kernel
theorem d_R_readNested_84 : decode m_R_readNested.2.1 84 = .ok (.iconst 2, 1) := by decide +kernel
theorem d_R_readNested_85 : decode m_R_readNested.2.1 85 = .ok (.invokevirtual 137, 3) := by decide +kernel
theorem d_R_readNested_88 : decode m_R_readNested.2.1 88 = .ok (.invokevirtual 40, 3) := by decide +kernel
theorem d_R_readNested_91 : decode m_R_readNested.2.1 91 = .ok (.iconst 2, 1) := by decide +kernel
theorem d_R_readNested_92 : decode m_R_readNested.2.1 92 = .ok (.if_icmp .ne 7, 3) := by decide +kernel
theorem d_R_readNested_95 : decode m_R_readNested.2.1 95 = .ok (.iconst 1, 1) := by decide +kernel
theorem d_R_readNested_96 : decode m_R_readNested.2.1 96 = .ok (.goto 4, 3) := by decide +kernel
theorem d_R_readNested_99 : decode m_R_readNested.2.1 99 = .ok (.iconst 0, 1) := by decide +kernel
theorem d_R_readNested_100 : decode m_R_readNested.2.1 100 = .ok (.invokestatic 59, 3) := by decide +kernel
theorem d_R_readNested_103 : decode m_R_readNested.2.1 103 = .ok (.iload_n 2, 1) := by decide +kernel
theorem d_R_readNested_104 : decode m_R_readNested.2.1 104 = .ok (.ireturn, 1) := by decide +kernel
theorem d_R_readNestedStart_0 : decode m_R_readNestedStart.2.1 0 = .ok (.aload_n 0, 1) := by decide +kernel
theorem d_R_readNestedStart_1 : decode m_R_readNestedStart.2.1 1 = .ok (.invokevirtual 55, 3) := by decide +kernel
theorem d_R_readNestedStart_4 : decode m_R_readNestedStart.2.1 4 = .ok (.bipush 83, 2) := by decide +kernel
theorem d_R_readNestedStart_6 : decode m_R_readNestedStart.2.1 6 = .ok (.if_icmp .ne 8, 3) := by decide +kernel
theorem d_R_readNestedStart_9 : decode m_R_readNestedStart.2.1 9 = .ok (.aload_n 0, 1) := by decide +kernel
theorem d_R_readNestedStart_10 : decode m_R_readNestedStart.2.1 10 = .ok (.invokevirtual 93, 3) := by decide +kernel
theorem d_R_readNestedStart_13 : decode m_R_readNestedStart.2.1 13 = .ok (.ireturn, 1) := by decide +kernel
theorem d_R_readNestedStart_14 : decode m_R_readNestedStart.2.1 14 = .ok (.aload_n 0, 1) := by decide +kernel
theorem d_R_readNestedStart_15 : decode m_R_readNestedStart.2.1 15 = .ok (.getfield 18, 3) := by decide +kernel
theorem d_R_readNestedStart_18 : decode m_R_readNestedStart.2.1 18 = .ok (.aload_n 0, 1) := by decide +kernel
theorem d_R_readNestedStart_19 : decode m_R_readNestedStart.2.1 19 = .ok (.invokevirtual 125, 3) := by decide +kernel
theorem d_R_readNestedStart_22 : decode m_R_readNestedStart.2.1 22 = .ok (.invokevirtual 128, 3) := by decide +kernel
theorem d_R_readNestedStart_25 : decode m_R_readNestedStart.2.1 25 = .ok (.istore_n 1, 1) := by decide +kernel
theorem d_R_readNestedStart_26 : decode m_R_readNestedStart.2.1 26 = .ok (.aload_n 0, 1) := by decide +kernel
theorem d_R_readNestedStart_27 : decode m_R_readNestedStart.2.1 27 = .ok (.getfield 12, 3) := by decide +kernel
theorem d_R_readNestedStart_30 : decode m_R_readNestedStart.2.1 30 = .ok (.iload_n 1, 1) := by decide +kernel
theorem d_R_readNestedStart_31 : decode m_R_readNestedStart.2.1 31 = .ok (.invokevirtual 89, 3) := by decide +kernel
theorem d_R_readNestedStart_34 : decode m_R_readNestedStart.2.1 34 = .ok (.pop, 1) := by decide +kernel
theorem d_R_readNestedStart_35 : decode m_R_readNestedStart.2.1 35 = .ok (.iload_n 1, 1) := by decide +kernel
theorem d_R_readNestedStart_36 : decode m_R_readNestedStart.2.1 36 = .ok (.ireturn, 1) := by decide +kernel
