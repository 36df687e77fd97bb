/-! decode rows, by program (wip/whole/gen03.py) -/
theorem d_M_told_0 : decode m_M_told.2.1 0 = .ok (.aload_n 0, 1) := by decide +kernel
theorem d_M_told_1 : decode m_M_told.2.1 1 = .ok (.iload_n 1, 1) := by decide +kernel
theorem d_M_told_2 : decode m_M_told.2.1 2 = .ok (.invokevirtual 113, 3) := by decide +kernel
theorem d_M_told_5 : decode m_M_told.2.1 5 = .ok (.istore_n 2, 1) := by decide +kernel
theorem d_M_told_6 : decode m_M_told.2.1 6 = .ok (.iload_n 2, 1) := by decide +kernel
theorem d_M_told_7 : decode m_M_told.2.1 7 = .ok (.ifCond .ge 5, 3) := by decide +kernel
theorem d_M_told_10 : decode m_M_told.2.1 10 = .ok (.iconst 0, 1) := by decide +kernel
theorem d_M_told_11 : decode m_M_told.2.1 11 = .ok (.ireturn, 1) := by decide +kernel
theorem d_M_told_12 : decode m_M_told.2.1 12 = .ok (.aload_n 0, 1) := by decide +kernel
theorem d_M_told_13 : decode m_M_told.2.1 13 = .ok (.bipush 83, 2) := by decide +kernel
theorem d_M_told_15 : decode m_M_told.2.1 15 = .ok (.invokevirtual 105, 3) := by decide +kernel
theorem d_M_told_18 : decode m_M_told.2.1 18 = .ok (.iload_n 2, 1) := by decide +kernel
theorem d_M_told_19 : decode m_M_told.2.1 19 = .ok (.bipush 36, 2) := by decide +kernel
theorem d_M_told_21 : decode m_M_told.2.1 21 = .ok (.if_icmp .le 16, 3) := by decide +kernel
theorem d_M_told_24 : decode m_M_told.2.1 24 = .ok (.aload_n 0, 1) := by decide +kernel
theorem d_M_told_25 : decode m_M_told.2.1 25 = .ok (.iload_n 2, 1) := by decide +kernel
theorem d_M_told_26 : decode m_M_told.2.1 26 = .ok (.iconst 1, 1) := by decide +kernel
theorem d_M_told_27 : decode m_M_told.2.1 27 = .ok (.isub, 1) := by decide +kernel
theorem d_M_told_28 : decode m_M_told.2.1 28 = .ok (.bipush 36, 2) := by decide +kernel
theorem d_M_told_30 : decode m_M_told.2.1 30 = .ok (.idiv, 1) := by decide +kernel
theorem d_M_told_31 : decode m_M_told.2.1 31 = .ok (.invokestatic 117, 3) := by decide +kernel
theorem d_M_told_34 : decode m_M_told.2.1 34 = .ok (.invokevirtual 105, 3) := by decide +kernel
theorem d_M_told_37 : decode m_M_told.2.1 37 = .ok (.iload_n 2, 1) := by decide +kernel
theorem d_M_told_38 : decode m_M_told.2.1 38 = .ok (.ifCond .le 16, 3) := by decide +kernel
theorem d_M_told_41 : decode m_M_told.2.1 41 = .ok (.aload_n 0, 1) := by decide +kernel
theorem d_M_told_42 : decode m_M_told.2.1 42 = .ok (.iload_n 2, 1) := by decide +kernel
theorem d_M_told_43 : decode m_M_told.2.1 43 = .ok (.iconst 1, 1) := by decide +kernel
theorem d_M_told_44 : decode m_M_told.2.1 44 = .ok (.isub, 1) := by decide +kernel
theorem d_M_told_45 : decode m_M_told.2.1 45 = .ok (.bipush 36, 2) := by decide +kernel
theorem d_M_told_47 : decode m_M_told.2.1 47 = .ok (.irem, 1) := by decide +kernel
theorem d_M_told_48 : decode m_M_told.2.1 48 = .ok (.invokestatic 117, 3) := by decide +kernel
theorem d_M_told_51 : decode m_M_told.2.1 51 = .ok (.invokevirtual 105, 3) := by decide +kernel
theorem d_M_told_54 : decode m_M_told.2.1 54 = .ok (.aload_n 0, 1) := by decide +kernel
theorem d_M_told_55 : decode m_M_told.2.1 55 = .ok (.bipush 95, 2) := by decide +kernel
theorem d_M_told_57 : decode m_M_told.2.1 57 = .ok (.invokevirtual 105, 3) := by decide +kernel
theorem d_M_told_60 : decode m_M_told.2.1 60 = .ok (.iconst 1, 1) := by decide +kernel
theorem d_M_told_61 : decode m_M_told.2.1 61 = .ok (.ireturn, 1) := by decide +kernel
theorem d_M_placeOf_0 : decode m_M_placeOf.2.1 0 = .ok (.iconst (-1), 1) := by decide +kernel
theorem d_M_placeOf_1 : decode m_M_placeOf.2.1 1 = .ok (.istore_n 2, 1) := by decide +kernel
theorem d_M_placeOf_2 : decode m_M_placeOf.2.1 2 = .ok (.aload_n 0, 1) := by decide +kernel
theorem d_M_placeOf_3 : decode m_M_placeOf.2.1 3 = .ok (.getfield 110, 3) := by decide +kernel
theorem d_M_placeOf_6 : decode m_M_placeOf.2.1 6 = .ok (.iconst 1, 1) := by decide +kernel
theorem d_M_placeOf_7 : decode m_M_placeOf.2.1 7 = .ok (.isub, 1) := by decide +kernel
theorem d_M_placeOf_8 : decode m_M_placeOf.2.1 8 = .ok (.istore_n 3, 1) := by decide +kernel
theorem d_M_placeOf_9 : decode m_M_placeOf.2.1 9 = .ok (.iload_n 3, 1) := by decide +kernel
theorem d_M_placeOf_10 : decode m_M_placeOf.2.1 10 = .ok (.ifCond .lt 25, 3) := by decide +kernel
theorem d_M_placeOf_13 : decode m_M_placeOf.2.1 13 = .ok (.aload_n 0, 1) := by decide +kernel
theorem d_M_placeOf_14 : decode m_M_placeOf.2.1 14 = .ok (.getfield 37, 3) := by decide +kernel
theorem d_M_placeOf_17 : decode m_M_placeOf.2.1 17 = .ok (.iload_n 3, 1) := by decide +kernel
theorem d_M_placeOf_18 : decode m_M_placeOf.2.1 18 = .ok (.iaload, 1) := by decide +kernel
theorem d_M_placeOf_19 : decode m_M_placeOf.2.1 19 = .ok (.iload_n 1, 1) := by decide +kernel
theorem d_M_placeOf_20 : decode m_M_placeOf.2.1 20 = .ok (.if_icmp .ne 7, 3) := by decide +kernel
theorem d_M_placeOf_23 : decode m_M_placeOf.2.1 23 = .ok (.iload_n 3, 1) := by decide +kernel
theorem d_M_placeOf_24 : decode m_M_placeOf.2.1 24 = .ok (.goto 4, 3) := by decide +kernel
theorem d_M_placeOf_27 : decode m_M_placeOf.2.1 27 = .ok (.iload_n 2, 1) := by decide +kernel
theorem d_M_placeOf_28 : decode m_M_placeOf.2.1 28 = .ok (.istore_n 2, 1) := by decide +kernel
theorem d_M_placeOf_29 : decode m_M_placeOf.2.1 29 = .ok (.iinc 3 (-1), 3) := by decide +kernel
theorem d_M_placeOf_32 : decode m_M_placeOf.2.1 32 = .ok (.goto (-23), 3) := by decide +kernel
theorem d_M_placeOf_35 : decode m_M_placeOf.2.1 35 = .ok (.iload_n 2, 1) := by decide +kernel
theorem d_M_placeOf_36 : decode m_M_placeOf.2.1 36 = .ok (.ireturn, 1) := by decide +kernel
theorem d_M_sign36_0 : decode m_M_sign36.2.1 0 = .ok (.iload_n 0, 1) := by decide +kernel
theorem d_M_sign36_1 : decode m_M_sign36.2.1 1 = .ok (.bipush 10, 2) := by decide +kernel
theorem d_M_sign36_3 : decode m_M_sign36.2.1 3 = .ok (.if_icmp .ge 10, 3) := by decide +kernel
theorem d_M_sign36_6 : decode m_M_sign36.2.1 6 = .ok (.bipush 48, 2) := by decide +kernel
theorem d_M_sign36_8 : decode m_M_sign36.2.1 8 = .ok (.iload_n 0, 1) := by decide +kernel
theorem d_M_sign36_9 : decode m_M_sign36.2.1 9 = .ok (.iadd, 1) := by decide +kernel
theorem d_M_sign36_10 : decode m_M_sign36.2.1 10 = .ok (.goto 10, 3) := by decide +kernel
theorem d_M_sign36_13 : decode m_M_sign36.2.1 13 = .ok (.bipush 65, 2) := by decide +kernel
theorem d_M_sign36_15 : decode m_M_sign36.2.1 15 = .ok (.iload_n 0, 1) := by decide +kernel
theorem d_M_sign36_16 : decode m_M_sign36.2.1 16 = .ok (.iadd, 1) := by decide +kernel
theorem d_M_sign36_17 : decode m_M_sign36.2.1 17 = .ok (.bipush 10, 2) := by decide +kernel
theorem d_M_sign36_19 : decode m_M_sign36.2.1 19 = .ok (.isub, 1) := by decide +kernel
theorem d_M_sign36_20 : decode m_M_sign36.2.1 20 = .ok (.ireturn, 1) := by decide +kernel
theorem d_M_prefix_0 : decode m_M_prefix.2.1 0 = .ok (.aload_n 0, 1) := by decide +kernel
theorem d_M_prefix_1 : decode m_M_prefix.2.1 1 = .ok (.iconst 2, 1) := by decide +kernel
theorem d_M_prefix_2 : decode m_M_prefix.2.1 2 = .ok (.iload_n 1, 1) := by decide +kernel
theorem d_M_prefix_3 : decode m_M_prefix.2.1 3 = .ok (.invokevirtual 123, 3) := by decide +kernel
theorem d_M_prefix_6 : decode m_M_prefix.2.1 6 = .ok (.aload_n 0, 1) := by decide +kernel
theorem d_M_prefix_7 : decode m_M_prefix.2.1 7 = .ok (.getfield 7, 3) := by decide +kernel
theorem d_M_prefix_10 : decode m_M_prefix.2.1 10 = .ok (.iload_n 1, 1) := by decide +kernel
theorem d_M_prefix_11 : decode m_M_prefix.2.1 11 = .ok (.iaload, 1) := by decide +kernel
theorem d_M_prefix_12 : decode m_M_prefix.2.1 12 = .ok (.iconst 1, 1) := by decide +kernel
theorem d_M_prefix_13 : decode m_M_prefix.2.1 13 = .ok (.if_icmp .ne 16, 3) := by decide +kernel
theorem d_M_prefix_16 : decode m_M_prefix.2.1 16 = .ok (.aload_n 0, 1) := by decide +kernel
theorem d_M_prefix_17 : decode m_M_prefix.2.1 17 = .ok (.aload_n 0, 1) := by decide +kernel
theorem d_M_prefix_18 : decode m_M_prefix.2.1 18 = .ok (.getfield 13, 3) := by decide +kernel
theorem d_M_prefix_21 : decode m_M_prefix.2.1 21 = .ok (.iload_n 1, 1) := by decide +kernel
theorem d_M_prefix_22 : decode m_M_prefix.2.1 22 = .ok (.iaload, 1) := by decide +kernel
theorem d_M_prefix_23 : decode m_M_prefix.2.1 23 = .ok (.invokevirtual 133, 3) := by decide +kernel
theorem d_M_prefix_26 : decode m_M_prefix.2.1 26 = .ok (.goto 34, 3) := by decide +kernel
theorem d_M_prefix_29 : decode m_M_prefix.2.1 29 = .ok (.aload_n 0, 1) := by decide +kernel
theorem d_M_prefix_30 : decode m_M_prefix.2.1 30 = .ok (.aload_n 0, 1) := by decide +kernel
theorem d_M_prefix_31 : decode m_M_prefix.2.1 31 = .ok (.getfield 7, 3) := by decide +kernel
theorem d_M_prefix_34 : decode m_M_prefix.2.1 34 = .ok (.iload_n 1, 1) := by decide +kernel
theorem d_M_prefix_35 : decode m_M_prefix.2.1 35 = .ok (.iaload, 1) := by decide +kernel
theorem d_M_prefix_36 : decode m_M_prefix.2.1 36 = .ok (.iconst 2, 1) := by decide +kernel
theorem d_M_prefix_37 : decode m_M_prefix.2.1 37 = .ok (.if_icmp .ne 7, 3) := by decide +kernel
theorem d_M_prefix_40 : decode m_M_prefix.2.1 40 = .ok (.iconst 3, 1) := by decide +kernel
theorem d_M_prefix_41 : decode m_M_prefix.2.1 41 = .ok (.goto 4, 3) := by decide +kernel
theorem d_M_prefix_44 : decode m_M_prefix.2.1 44 = .ok (.iconst 4, 1) := by decide +kernel
theorem d_M_prefix_45 : decode m_M_prefix.2.1 45 = .ok (.iload_n 1, 1) := by decide +kernel
theorem d_M_prefix_46 : decode m_M_prefix.2.1 46 = .ok (.invokevirtual 123, 3) := by decide +kernel
theorem d_M_prefix_49 : decode m_M_prefix.2.1 49 = .ok (.aload_n 0, 1) := by decide +kernel
theorem d_M_prefix_50 : decode m_M_prefix.2.1 50 = .ok (.iconst 1, 1) := by decide +kernel
theorem d_M_prefix_51 : decode m_M_prefix.2.1 51 = .ok (.aload_n 0, 1) := by decide +kernel
theorem d_M_prefix_52 : decode m_M_prefix.2.1 52 = .ok (.getfield 16, 3) := by decide +kernel
theorem d_M_prefix_55 : decode m_M_prefix.2.1 55 = .ok (.iload_n 1, 1) := by decide +kernel
theorem d_M_prefix_56 : decode m_M_prefix.2.1 56 = .ok (.iaload, 1) := by decide +kernel
theorem d_M_prefix_57 : decode m_M_prefix.2.1 57 = .ok (.invokevirtual 123, 3) := by decide +kernel
theorem d_M_prefix_60 : decode m_M_prefix.2.1 60 = .ok (.return_, 1) := by decide +kernel
theorem d_M_letter_0 : decode m_M_letter.2.1 0 = .ok (.iload_n 0, 1) := by decide +kernel
theorem d_M_letter_1 : decode m_M_letter.2.1 1 = .ok (.ifCond .ne 8, 3) := by decide +kernel
theorem d_M_letter_4 : decode m_M_letter.2.1 4 = .ok (.bipush 118, 2) := by decide +kernel
theorem d_M_letter_6 : decode m_M_letter.2.1 6 = .ok (.goto 66, 3) := by decide +kernel
theorem d_M_letter_9 : decode m_M_letter.2.1 9 = .ok (.iload_n 0, 1) := by decide +kernel
theorem d_M_letter_10 : decode m_M_letter.2.1 10 = .ok (.iconst 1, 1) := by decide +kernel
theorem d_M_letter_11 : decode m_M_letter.2.1 11 = .ok (.if_icmp .ne 8, 3) := by decide +kernel
theorem d_M_letter_14 : decode m_M_letter.2.1 14 = .ok (.bipush 98, 2) := by decide +kernel
theorem d_M_letter_16 : decode m_M_letter.2.1 16 = .ok (.goto 56, 3) := by decide +kernel
theorem d_M_letter_19 : decode m_M_letter.2.1 19 = .ok (.iload_n 0, 1) := by decide +kernel
theorem d_M_letter_20 : decode m_M_letter.2.1 20 = .ok (.iconst 2, 1) := by decide +kernel
theorem d_M_letter_21 : decode m_M_letter.2.1 21 = .ok (.if_icmp .ne 8, 3) := by decide +kernel
theorem d_M_letter_24 : decode m_M_letter.2.1 24 = .ok (.bipush 99, 2) := by decide +kernel
theorem d_M_letter_26 : decode m_M_letter.2.1 26 = .ok (.goto 46, 3) := by decide +kernel
theorem d_M_letter_29 : decode m_M_letter.2.1 29 = .ok (.iload_n 0, 1) := by decide +kernel
theorem d_M_letter_30 : decode m_M_letter.2.1 30 = .ok (.iconst 3, 1) := by decide +kernel
theorem d_M_letter_31 : decode m_M_letter.2.1 31 = .ok (.if_icmp .ne 8, 3) := by decide +kernel
theorem d_M_letter_34 : decode m_M_letter.2.1 34 = .ok (.bipush 115, 2) := by decide +kernel
theorem d_M_letter_36 : decode m_M_letter.2.1 36 = .ok (.goto 36, 3) := by decide +kernel
theorem d_M_letter_39 : decode m_M_letter.2.1 39 = .ok (.iload_n 0, 1) := by decide +kernel
theorem d_M_letter_40 : decode m_M_letter.2.1 40 = .ok (.iconst 4, 1) := by decide +kernel
theorem d_M_letter_41 : decode m_M_letter.2.1 41 = .ok (.if_icmp .ne 8, 3) := by decide +kernel
theorem d_M_letter_44 : decode m_M_letter.2.1 44 = .ok (.bipush 105, 2) := by decide +kernel
theorem d_M_letter_46 : decode m_M_letter.2.1 46 = .ok (.goto 26, 3) := by decide +kernel
theorem d_M_letter_49 : decode m_M_letter.2.1 49 = .ok (.iload_n 0, 1) := by decide +kernel
theorem d_M_letter_50 : decode m_M_letter.2.1 50 = .ok (.iconst 5, 1) := by decide +kernel
theorem d_M_letter_51 : decode m_M_letter.2.1 51 = .ok (.if_icmp .ne 8, 3) := by decide +kernel
theorem d_M_letter_54 : decode m_M_letter.2.1 54 = .ok (.bipush 106, 2) := by decide +kernel
theorem d_M_letter_56 : decode m_M_letter.2.1 56 = .ok (.goto 16, 3) := by decide +kernel
theorem d_M_letter_59 : decode m_M_letter.2.1 59 = .ok (.iload_n 0, 1) := by decide +kernel
theorem d_M_letter_60 : decode m_M_letter.2.1 60 = .ok (.bipush 6, 2) := by decide +kernel
theorem d_M_letter_62 : decode m_M_letter.2.1 62 = .ok (.if_icmp .ne 8, 3) := by decide +kernel
theorem d_M_letter_65 : decode m_M_letter.2.1 65 = .ok (.bipush 108, 2) := by decide +kernel
theorem d_M_letter_67 : decode m_M_letter.2.1 67 = .ok (.goto 5, 3) := by decide +kernel
theorem d_M_letter_70 : decode m_M_letter.2.1 70 = .ok (.bipush 120, 2) := by decide +kernel
theorem d_M_letter_72 : decode m_M_letter.2.1 72 = .ok (.ireturn, 1) := by decide +kernel
theorem d_M_literalOf_0 : decode m_M_literalOf.2.1 0 = .ok (.aload_n 0, 1) := by decide +kernel
theorem d_M_literalOf_1 : decode m_M_literalOf.2.1 1 = .ok (.bipush 76, 2) := by decide +kernel
theorem d_M_literalOf_3 : decode m_M_literalOf.2.1 3 = .ok (.invokevirtual 105, 3) := by decide +kernel
theorem d_M_literalOf_6 : decode m_M_literalOf.2.1 6 = .ok (.aload_n 0, 1) := by decide +kernel
theorem d_M_literalOf_7 : decode m_M_literalOf.2.1 7 = .ok (.aload_n 0, 1) := by decide +kernel
theorem d_M_literalOf_8 : decode m_M_literalOf.2.1 8 = .ok (.getfield 13, 3) := by decide +kernel
theorem d_M_literalOf_11 : decode m_M_literalOf.2.1 11 = .ok (.aload_n 0, 1) := by decide +kernel
theorem d_M_literalOf_12 : decode m_M_literalOf.2.1 12 = .ok (.getfield 16, 3) := by decide +kernel
theorem d_M_literalOf_15 : decode m_M_literalOf.2.1 15 = .ok (.iload_n 1, 1) := by decide +kernel
theorem d_M_literalOf_16 : decode m_M_literalOf.2.1 16 = .ok (.iaload, 1) := by decide +kernel
theorem d_M_literalOf_17 : decode m_M_literalOf.2.1 17 = .ok (.iaload, 1) := by decide +kernel
theorem d_M_literalOf_18 : decode m_M_literalOf.2.1 18 = .ok (.invokestatic 127, 3) := by decide +kernel
theorem d_M_literalOf_21 : decode m_M_literalOf.2.1 21 = .ok (.invokevirtual 105, 3) := by decide +kernel
theorem d_M_literalOf_24 : decode m_M_literalOf.2.1 24 = .ok (.aload_n 0, 1) := by decide +kernel
theorem d_M_literalOf_25 : decode m_M_literalOf.2.1 25 = .ok (.getfield 13, 3) := by decide +kernel
theorem d_M_literalOf_28 : decode m_M_literalOf.2.1 28 = .ok (.iload_n 1, 1) := by decide +kernel
theorem d_M_literalOf_29 : decode m_M_literalOf.2.1 29 = .ok (.iaload, 1) := by decide +kernel
theorem d_M_literalOf_30 : decode m_M_literalOf.2.1 30 = .ok (.ifCond .ge 9, 3) := by decide +kernel
theorem d_M_literalOf_33 : decode m_M_literalOf.2.1 33 = .ok (.aload_n 0, 1) := by decide +kernel
theorem d_M_literalOf_34 : decode m_M_literalOf.2.1 34 = .ok (.bipush 110, 2) := by decide +kernel
theorem d_M_literalOf_36 : decode m_M_literalOf.2.1 36 = .ok (.invokevirtual 105, 3) := by decide +kernel
theorem d_M_literalOf_39 : decode m_M_literalOf.2.1 39 = .ok (.aload_n 0, 1) := by decide +kernel
theorem d_M_literalOf_40 : decode m_M_literalOf.2.1 40 = .ok (.aload_n 0, 1) := by decide +kernel
theorem d_M_literalOf_41 : decode m_M_literalOf.2.1 41 = .ok (.getfield 13, 3) := by decide +kernel
theorem d_M_literalOf_44 : decode m_M_literalOf.2.1 44 = .ok (.iload_n 1, 1) := by decide +kernel
theorem d_M_literalOf_45 : decode m_M_literalOf.2.1 45 = .ok (.iaload, 1) := by decide +kernel
theorem d_M_literalOf_46 : decode m_M_literalOf.2.1 46 = .ok (.ifCond .ge 13, 3) := by decide +kernel
theorem d_M_literalOf_49 : decode m_M_literalOf.2.1 49 = .ok (.aload_n 0, 1) := by decide +kernel
theorem d_M_literalOf_50 : decode m_M_literalOf.2.1 50 = .ok (.getfield 13, 3) := by decide +kernel
theorem d_M_literalOf_53 : decode m_M_literalOf.2.1 53 = .ok (.iload_n 1, 1) := by decide +kernel
theorem d_M_literalOf_54 : decode m_M_literalOf.2.1 54 = .ok (.iaload, 1) := by decide +kernel
theorem d_M_literalOf_55 : decode m_M_literalOf.2.1 55 = .ok (.ineg, 1) := by decide +kernel
theorem d_M_literalOf_56 : decode m_M_literalOf.2.1 56 = .ok (.goto 9, 3) := by decide +kernel
theorem d_M_literalOf_59 : decode m_M_literalOf.2.1 59 = .ok (.aload_n 0, 1) := by decide +kernel
theorem d_M_literalOf_60 : decode m_M_literalOf.2.1 60 = .ok (.getfield 13, 3) := by decide +kernel
theorem d_M_literalOf_63 : decode m_M_literalOf.2.1 63 = .ok (.iload_n 1, 1) := by decide +kernel
theorem d_M_literalOf_64 : decode m_M_literalOf.2.1 64 = .ok (.iaload, 1) := by decide +kernel
theorem d_M_literalOf_65 : decode m_M_literalOf.2.1 65 = .ok (.invokevirtual 130, 3) := by decide +kernel
theorem d_M_literalOf_68 : decode m_M_literalOf.2.1 68 = .ok (.aload_n 0, 1) := by decide +kernel
theorem d_M_literalOf_69 : decode m_M_literalOf.2.1 69 = .ok (.bipush 69, 2) := by decide +kernel
theorem d_M_literalOf_71 : decode m_M_literalOf.2.1 71 = .ok (.invokevirtual 105, 3) := by decide +kernel
theorem d_M_literalOf_74 : decode m_M_literalOf.2.1 74 = .ok (.return_, 1) := by decide +kernel
theorem d_M_show_0 : decode m_M_show.2.1 0 = .ok (.aload_n 0, 1) := by decide +kernel
theorem d_M_show_1 : decode m_M_show.2.1 1 = .ok (.aload_n 0, 1) := by decide +kernel
theorem d_M_show_2 : decode m_M_show.2.1 2 = .ok (.getfield 110, 3) := by decide +kernel
theorem d_M_show_5 : decode m_M_show.2.1 5 = .ok (.putfield 163, 3) := by decide +kernel
theorem d_M_show_8 : decode m_M_show.2.1 8 = .ok (.iconst 0, 1) := by decide +kernel
theorem d_M_show_9 : decode m_M_show.2.1 9 = .ok (.istore_n 1, 1) := by decide +kernel
theorem d_M_show_10 : decode m_M_show.2.1 10 = .ok (.iload_n 1, 1) := by decide +kernel
theorem d_M_show_11 : decode m_M_show.2.1 11 = .ok (.aload_n 0, 1) := by decide +kernel
theorem d_M_show_12 : decode m_M_show.2.1 12 = .ok (.getfield 110, 3) := by decide +kernel
theorem d_M_show_15 : decode m_M_show.2.1 15 = .ok (.if_icmp .ge 21, 3) := by decide +kernel
theorem d_M_show_18 : decode m_M_show.2.1 18 = .ok (.aload_n 0, 1) := by decide +kernel
theorem d_M_show_19 : decode m_M_show.2.1 19 = .ok (.getfield 34, 3) := by decide +kernel
theorem d_M_show_22 : decode m_M_show.2.1 22 = .ok (.iload_n 1, 1) := by decide +kernel
theorem d_M_show_23 : decode m_M_show.2.1 23 = .ok (.aload_n 0, 1) := by decide +kernel
theorem d_M_show_24 : decode m_M_show.2.1 24 = .ok (.getfield 37, 3) := by decide +kernel
theorem d_M_show_27 : decode m_M_show.2.1 27 = .ok (.iload_n 1, 1) := by decide +kernel
theorem d_M_show_28 : decode m_M_show.2.1 28 = .ok (.iaload, 1) := by decide +kernel
theorem d_M_show_29 : decode m_M_show.2.1 29 = .ok (.iastore, 1) := by decide +kernel
theorem d_M_show_30 : decode m_M_show.2.1 30 = .ok (.iinc 1 1, 3) := by decide +kernel
theorem d_M_show_33 : decode m_M_show.2.1 33 = .ok (.goto (-23), 3) := by decide +kernel
theorem d_M_show_36 : decode m_M_show.2.1 36 = .ok (.return_, 1) := by decide +kernel
theorem d_M_type_0 : decode m_M_type.2.1 0 = .ok (.aload_n 0, 1) := by decide +kernel
theorem d_M_type_1 : decode m_M_type.2.1 1 = .ok (.iconst 0, 1) := by decide +kernel
theorem d_M_type_2 : decode m_M_type.2.1 2 = .ok (.putfield 52, 3) := by decide +kernel
theorem d_M_type_5 : decode m_M_type.2.1 5 = .ok (.aload_n 0, 1) := by decide +kernel
theorem d_M_type_6 : decode m_M_type.2.1 6 = .ok (.getfield 157, 3) := by decide +kernel
theorem d_M_type_9 : decode m_M_type.2.1 9 = .ok (.istore_n 3, 1) := by decide +kernel
theorem d_M_type_10 : decode m_M_type.2.1 10 = .ok (.bipush 7, 2) := by decide +kernel
theorem d_M_type_12 : decode m_M_type.2.1 12 = .ok (.istore 4, 2) := by decide +kernel
theorem d_M_type_14 : decode m_M_type.2.1 14 = .ok (.iload 4, 2) := by decide +kernel
theorem d_M_type_16 : decode m_M_type.2.1 16 = .ok (.ifCond .lt 61, 3) := by decide +kernel
theorem d_M_type_19 : decode m_M_type.2.1 19 = .ok (.lload_n 1, 1) := by decide +kernel
theorem d_M_type_20 : decode m_M_type.2.1 20 = .ok (.bipush 8, 2) := by decide +kernel
theorem d_M_type_22 : decode m_M_type.2.1 22 = .ok (.iload 4, 2) := by decide +kernel
theorem d_M_type_24 : decode m_M_type.2.1 24 = .ok (.imul, 1) := by decide +kernel
theorem d_M_type_25 : decode m_M_type.2.1 25 = .ok (.lshr, 1) := by decide +kernel
theorem d_M_type_26 : decode m_M_type.2.1 26 = .ok (.ldc2_w 166, 3) := by decide +kernel
theorem d_M_type_29 : decode m_M_type.2.1 29 = .ok (.land, 1) := by decide +kernel
theorem d_M_type_30 : decode m_M_type.2.1 30 = .ok (.l2i, 1) := by decide +kernel
theorem d_M_type_31 : decode m_M_type.2.1 31 = .ok (.istore 5, 2) := by decide +kernel
theorem d_M_type_33 : decode m_M_type.2.1 33 = .ok (.iload 5, 2) := by decide +kernel
theorem d_M_type_35 : decode m_M_type.2.1 35 = .ok (.ifCond .eq 36, 3) := by decide +kernel
theorem d_M_type_38 : decode m_M_type.2.1 38 = .ok (.iload 5, 2) := by decide +kernel
theorem d_M_type_40 : decode m_M_type.2.1 40 = .ok (.bipush 33, 2) := by decide +kernel
theorem d_M_type_42 : decode m_M_type.2.1 42 = .ok (.if_icmp .lt 16, 3) := by decide +kernel
theorem d_M_type_45 : decode m_M_type.2.1 45 = .ok (.iload 5, 2) := by decide +kernel
theorem d_M_type_47 : decode m_M_type.2.1 47 = .ok (.bipush 126, 2) := by decide +kernel
theorem d_M_type_49 : decode m_M_type.2.1 49 = .ok (.if_icmp .gt 9, 3) := by decide +kernel
theorem d_M_type_52 : decode m_M_type.2.1 52 = .ok (.iload_n 3, 1) := by decide +kernel
theorem d_M_type_53 : decode m_M_type.2.1 53 = .ok (.bipush 120, 2) := by decide +kernel
theorem d_M_type_55 : decode m_M_type.2.1 55 = .ok (.if_icmp .ne 5, 3) := by decide +kernel
theorem d_M_type_58 : decode m_M_type.2.1 58 = .ok (.iconst 0, 1) := by decide +kernel
theorem d_M_type_59 : decode m_M_type.2.1 59 = .ok (.ireturn, 1) := by decide +kernel
theorem d_M_type_60 : decode m_M_type.2.1 60 = .ok (.aload_n 0, 1) := by decide +kernel
theorem d_M_type_61 : decode m_M_type.2.1 61 = .ok (.getfield 28, 3) := by decide +kernel
theorem d_M_type_64 : decode m_M_type.2.1 64 = .ok (.iload_n 3, 1) := by decide +kernel
theorem d_M_type_65 : decode m_M_type.2.1 65 = .ok (.iload 5, 2) := by decide +kernel
theorem d_M_type_67 : decode m_M_type.2.1 67 = .ok (.iastore, 1) := by decide +kernel
theorem d_M_type_68 : decode m_M_type.2.1 68 = .ok (.iinc 3 1, 3) := by decide +kernel
theorem d_M_type_71 : decode m_M_type.2.1 71 = .ok (.iinc 4 (-1), 3) := by decide +kernel
theorem d_M_type_74 : decode m_M_type.2.1 74 = .ok (.goto (-60), 3) := by decide +kernel
theorem d_M_type_77 : decode m_M_type.2.1 77 = .ok (.aload_n 0, 1) := by decide +kernel
theorem d_M_type_78 : decode m_M_type.2.1 78 = .ok (.iload_n 3, 1) := by decide +kernel
theorem d_M_type_79 : decode m_M_type.2.1 79 = .ok (.putfield 157, 3) := by decide +kernel
theorem d_M_type_82 : decode m_M_type.2.1 82 = .ok (.iconst 1, 1) := by decide +kernel
theorem d_M_type_83 : decode m_M_type.2.1 83 = .ok (.ireturn, 1) := by decide +kernel
theorem d_M_wipe_0 : decode m_M_wipe.2.1 0 = .ok (.aload_n 0, 1) := by decide +kernel
theorem d_M_wipe_1 : decode m_M_wipe.2.1 1 = .ok (.iconst 0, 1) := by decide +kernel
theorem d_M_wipe_2 : decode m_M_wipe.2.1 2 = .ok (.putfield 52, 3) := by decide +kernel
theorem d_M_wipe_5 : decode m_M_wipe.2.1 5 = .ok (.aload_n 0, 1) := by decide +kernel
theorem d_M_wipe_6 : decode m_M_wipe.2.1 6 = .ok (.iconst 0, 1) := by decide +kernel
theorem d_M_wipe_7 : decode m_M_wipe.2.1 7 = .ok (.putfield 157, 3) := by decide +kernel
theorem d_M_wipe_10 : decode m_M_wipe.2.1 10 = .ok (.return_, 1) := by decide +kernel
theorem d_M_text_0 : decode m_M_text.2.1 0 = .ok (.aload_n 0, 1) := by decide +kernel
theorem d_M_text_1 : decode m_M_text.2.1 1 = .ok (.iconst 0, 1) := by decide +kernel
theorem d_M_text_2 : decode m_M_text.2.1 2 = .ok (.putfield 52, 3) := by decide +kernel
theorem d_M_text_5 : decode m_M_text.2.1 5 = .ok (.iload_n 1, 1) := by decide +kernel
theorem d_M_text_6 : decode m_M_text.2.1 6 = .ok (.ifCond .lt 11, 3) := by decide +kernel
theorem d_M_text_9 : decode m_M_text.2.1 9 = .ok (.iload_n 1, 1) := by decide +kernel
theorem d_M_text_10 : decode m_M_text.2.1 10 = .ok (.aload_n 0, 1) := by decide +kernel
theorem d_M_text_11 : decode m_M_text.2.1 11 = .ok (.getfield 157, 3) := by decide +kernel
theorem d_M_text_14 : decode m_M_text.2.1 14 = .ok (.if_icmp .lt 7, 3) := by decide +kernel
theorem d_M_text_17 : decode m_M_text.2.1 17 = .ok (.iconst (-1), 1) := by decide +kernel
theorem d_M_text_18 : decode m_M_text.2.1 18 = .ok (.goto 9, 3) := by decide +kernel
theorem d_M_text_21 : decode m_M_text.2.1 21 = .ok (.aload_n 0, 1) := by decide +kernel
theorem d_M_text_22 : decode m_M_text.2.1 22 = .ok (.getfield 28, 3) := by decide +kernel
theorem d_M_text_25 : decode m_M_text.2.1 25 = .ok (.iload_n 1, 1) := by decide +kernel
theorem d_M_text_26 : decode m_M_text.2.1 26 = .ok (.iaload, 1) := by decide +kernel
theorem d_M_text_27 : decode m_M_text.2.1 27 = .ok (.ireturn, 1) := by decide +kernel
theorem d_M_read_0 : decode m_M_read.2.1 0 = .ok (.aload_n 0, 1) := by decide +kernel
theorem d_M_read_1 : decode m_M_read.2.1 1 = .ok (.aload_n 0, 1) := by decide +kernel
theorem d_M_read_2 : decode m_M_read.2.1 2 = .ok (.getfield 56, 3) := by decide +kernel
theorem d_M_read_5 : decode m_M_read.2.1 5 = .ok (.putfield 66, 3) := by decide +kernel
theorem d_M_read_8 : decode m_M_read.2.1 8 = .ok (.aload_n 0, 1) := by decide +kernel
theorem d_M_read_9 : decode m_M_read.2.1 9 = .ok (.iconst 0, 1) := by decide +kernel
theorem d_M_read_10 : decode m_M_read.2.1 10 = .ok (.putfield 110, 3) := by decide +kernel
theorem d_M_read_13 : decode m_M_read.2.1 13 = .ok (.aload_n 0, 1) := by decide +kernel
theorem d_M_read_14 : decode m_M_read.2.1 14 = .ok (.iconst 0, 1) := by decide +kernel
theorem d_M_read_15 : decode m_M_read.2.1 15 = .ok (.putfield 120, 3) := by decide +kernel
theorem d_M_read_18 : decode m_M_read.2.1 18 = .ok (.aload_n 0, 1) := by decide +kernel
theorem d_M_read_19 : decode m_M_read.2.1 19 = .ok (.iconst 0, 1) := by decide +kernel
theorem d_M_read_20 : decode m_M_read.2.1 20 = .ok (.putfield 168, 3) := by decide +kernel
theorem d_M_read_23 : decode m_M_read.2.1 23 = .ok (.aload_n 0, 1) := by decide +kernel
theorem d_M_read_24 : decode m_M_read.2.1 24 = .ok (.iconst 0, 1) := by decide +kernel
theorem d_M_read_25 : decode m_M_read.2.1 25 = .ok (.putfield 171, 3) := by decide +kernel
theorem d_M_read_28 : decode m_M_read.2.1 28 = .ok (.aload_n 0, 1) := by decide +kernel
theorem d_M_read_29 : decode m_M_read.2.1 29 = .ok (.iconst 0, 1) := by decide +kernel
theorem d_M_read_30 : decode m_M_read.2.1 30 = .ok (.putfield 227, 3) := by decide +kernel
theorem d_M_read_33 : decode m_M_read.2.1 33 = .ok (.aload_n 0, 1) := by decide +kernel
theorem d_M_read_34 : decode m_M_read.2.1 34 = .ok (.invokevirtual 248, 3) := by decide +kernel
theorem d_M_read_37 : decode m_M_read.2.1 37 = .ok (.istore_n 1, 1) := by decide +kernel
theorem d_M_read_38 : decode m_M_read.2.1 38 = .ok (.aload_n 0, 1) := by decide +kernel
theorem d_M_read_39 : decode m_M_read.2.1 39 = .ok (.aload_n 0, 1) := by decide +kernel
theorem d_M_read_40 : decode m_M_read.2.1 40 = .ok (.getfield 171, 3) := by decide +kernel
theorem d_M_read_43 : decode m_M_read.2.1 43 = .ok (.ifCond .eq 7, 3) := by decide +kernel
theorem d_M_read_46 : decode m_M_read.2.1 46 = .ok (.iconst 1, 1) := by decide +kernel
theorem d_M_read_47 : decode m_M_read.2.1 47 = .ok (.goto 17, 3) := by decide +kernel
theorem d_M_read_50 : decode m_M_read.2.1 50 = .ok (.aload_n 0, 1) := by decide +kernel
theorem d_M_read_51 : decode m_M_read.2.1 51 = .ok (.getfield 66, 3) := by decide +kernel
theorem d_M_read_54 : decode m_M_read.2.1 54 = .ok (.bipush 60, 2) := by decide +kernel
theorem d_M_read_56 : decode m_M_read.2.1 56 = .ok (.if_icmp .le 7, 3) := by decide +kernel
theorem d_M_read_59 : decode m_M_read.2.1 59 = .ok (.iconst 2, 1) := by decide +kernel
theorem d_M_read_60 : decode m_M_read.2.1 60 = .ok (.goto 4, 3) := by decide +kernel
theorem d_M_read_63 : decode m_M_read.2.1 63 = .ok (.iconst 0, 1) := by decide +kernel
theorem d_M_read_64 : decode m_M_read.2.1 64 = .ok (.putfield 52, 3) := by decide +kernel
theorem d_M_read_67 : decode m_M_read.2.1 67 = .ok (.aload_n 0, 1) := by decide +kernel
theorem d_M_read_68 : decode m_M_read.2.1 68 = .ok (.getfield 52, 3) := by decide +kernel
theorem d_M_read_71 : decode m_M_read.2.1 71 = .ok (.ifCond .le 13, 3) := by decide +kernel
theorem d_M_read_74 : decode m_M_read.2.1 74 = .ok (.aload_n 0, 1) := by decide +kernel
theorem d_M_read_75 : decode m_M_read.2.1 75 = .ok (.aload_n 0, 1) := by decide +kernel
theorem d_M_read_76 : decode m_M_read.2.1 76 = .ok (.getfield 56, 3) := by decide +kernel
theorem d_M_read_79 : decode m_M_read.2.1 79 = .ok (.putfield 66, 3) := by decide +kernel
theorem d_M_read_82 : decode m_M_read.2.1 82 = .ok (.iconst 0, 1) := by decide +kernel
theorem d_M_read_83 : decode m_M_read.2.1 83 = .ok (.ireturn, 1) := by decide +kernel
theorem d_M_read_84 : decode m_M_read.2.1 84 = .ok (.aload_n 0, 1) := by decide +kernel
theorem d_M_read_85 : decode m_M_read.2.1 85 = .ok (.aload_n 0, 1) := by decide +kernel
theorem d_M_read_86 : decode m_M_read.2.1 86 = .ok (.getfield 66, 3) := by decide +kernel
theorem d_M_read_89 : decode m_M_read.2.1 89 = .ok (.putfield 56, 3) := by decide +kernel
theorem d_M_read_92 : decode m_M_read.2.1 92 = .ok (.aload_n 0, 1) := by decide +kernel
theorem d_M_read_93 : decode m_M_read.2.1 93 = .ok (.invokevirtual 160, 3) := by decide +kernel
theorem d_M_read_96 : decode m_M_read.2.1 96 = .ok (.iload_n 1, 1) := by decide +kernel
theorem d_M_read_97 : decode m_M_read.2.1 97 = .ok (.ireturn, 1) := by decide +kernel
theorem d_M_readEntity_0 : decode m_M_readEntity.2.1 0 = .ok (.aload_n 0, 1) := by decide +kernel
theorem d_M_readEntity_1 : decode m_M_readEntity.2.1 1 = .ok (.bipush 95, 2) := by decide +kernel
theorem d_M_readEntity_3 : decode m_M_readEntity.2.1 3 = .ok (.invokevirtual 184, 3) := by decide +kernel
theorem d_M_readEntity_6 : decode m_M_readEntity.2.1 6 = .ok (.aload_n 0, 1) := by decide +kernel
theorem d_M_readEntity_7 : decode m_M_readEntity.2.1 7 = .ok (.bipush 90, 2) := by decide +kernel
theorem d_M_readEntity_9 : decode m_M_readEntity.2.1 9 = .ok (.invokevirtual 184, 3) := by decide +kernel
theorem d_M_readEntity_12 : decode m_M_readEntity.2.1 12 = .ok (.aload_n 0, 1) := by decide +kernel
theorem d_M_readEntity_13 : decode m_M_readEntity.2.1 13 = .ok (.bipush 10, 2) := by decide +kernel
theorem d_M_readEntity_15 : decode m_M_readEntity.2.1 15 = .ok (.iconst (-1), 1) := by decide +kernel
theorem d_M_readEntity_16 : decode m_M_readEntity.2.1 16 = .ok (.iconst (-1), 1) := by decide +kernel
theorem d_M_readEntity_17 : decode m_M_readEntity.2.1 17 = .ok (.invokevirtual 217, 3) := by decide +kernel
theorem d_M_readEntity_20 : decode m_M_readEntity.2.1 20 = .ok (.aload_n 0, 1) := by decide +kernel
theorem d_M_readEntity_21 : decode m_M_readEntity.2.1 21 = .ok (.getfield 171, 3) := by decide +kernel
theorem d_M_readEntity_24 : decode m_M_readEntity.2.1 24 = .ok (.ifCond .eq 7, 3) := by decide +kernel
theorem d_M_readEntity_27 : decode m_M_readEntity.2.1 27 = .ok (.iconst 0, 1) := by decide +kernel
theorem d_M_readEntity_28 : decode m_M_readEntity.2.1 28 = .ok (.goto 7, 3) := by decide +kernel
theorem d_M_readEntity_31 : decode m_M_readEntity.2.1 31 = .ok (.aload_n 0, 1) := by decide +kernel
theorem d_M_readEntity_32 : decode m_M_readEntity.2.1 32 = .ok (.invokevirtual 242, 3) := by decide +kernel
theorem d_M_readEntity_35 : decode m_M_readEntity.2.1 35 = .ok (.istore_n 1, 1) := by decide +kernel
theorem d_M_readEntity_36 : decode m_M_readEntity.2.1 36 = .ok (.aload_n 0, 1) := by decide +kernel
theorem d_M_readEntity_37 : decode m_M_readEntity.2.1 37 = .ok (.getfield 46, 3) := by decide +kernel
theorem d_M_readEntity_40 : decode m_M_readEntity.2.1 40 = .ok (.iconst 0, 1) := by decide +kernel
theorem d_M_readEntity_41 : decode m_M_readEntity.2.1 41 = .ok (.iconst 0, 1) := by decide +kernel
theorem d_M_readEntity_42 : decode m_M_readEntity.2.1 42 = .ok (.iastore, 1) := by decide +kernel
theorem d_M_readEntity_43 : decode m_M_readEntity.2.1 43 = .ok (.iconst (-1), 1) := by decide +kernel
theorem d_M_readEntity_44 : decode m_M_readEntity.2.1 44 = .ok (.istore_n 2, 1) := by decide +kernel
theorem d_M_readEntity_45 : decode m_M_readEntity.2.1 45 = .ok (.aload_n 0, 1) := by decide +kernel
theorem d_M_readEntity_46 : decode m_M_readEntity.2.1 46 = .ok (.getfield 171, 3) := by decide +kernel
theorem d_M_readEntity_49 : decode m_M_readEntity.2.1 49 = .ok (.ifCond .ne 19, 3) := by decide +kernel
theorem d_M_readEntity_52 : decode m_M_readEntity.2.1 52 = .ok (.aload_n 0, 1) := by decide +kernel
theorem d_M_readEntity_53 : decode m_M_readEntity.2.1 53 = .ok (.getfield 7, 3) := by decide +kernel
theorem d_M_readEntity_56 : decode m_M_readEntity.2.1 56 = .ok (.iload_n 1, 1) := by decide +kernel
theorem d_M_readEntity_57 : decode m_M_readEntity.2.1 57 = .ok (.iaload, 1) := by decide +kernel
theorem d_M_readEntity_58 : decode m_M_readEntity.2.1 58 = .ok (.iconst 3, 1) := by decide +kernel
theorem d_M_readEntity_59 : decode m_M_readEntity.2.1 59 = .ok (.if_icmp .ne 9, 3) := by decide +kernel
theorem d_M_readEntity_62 : decode m_M_readEntity.2.1 62 = .ok (.aload_n 0, 1) := by decide +kernel
theorem d_M_readEntity_63 : decode m_M_readEntity.2.1 63 = .ok (.iconst 1, 1) := by decide +kernel
theorem d_M_readEntity_64 : decode m_M_readEntity.2.1 64 = .ok (.invokevirtual 245, 3) := by decide +kernel
theorem d_M_readEntity_67 : decode m_M_readEntity.2.1 67 = .ok (.istore_n 2, 1) := by decide +kernel
theorem d_M_readEntity_68 : decode m_M_readEntity.2.1 68 = .ok (.iconst 0, 1) := by decide +kernel
theorem d_M_readEntity_69 : decode m_M_readEntity.2.1 69 = .ok (.istore_n 3, 1) := by decide +kernel
theorem d_M_readEntity_70 : decode m_M_readEntity.2.1 70 = .ok (.aload_n 0, 1) := by decide +kernel
theorem d_M_readEntity_71 : decode m_M_readEntity.2.1 71 = .ok (.getfield 171, 3) := by decide +kernel
theorem d_M_readEntity_74 : decode m_M_readEntity.2.1 74 = .ok (.ifCond .ne 25, 3) := by decide +kernel
theorem d_M_readEntity_77 : decode m_M_readEntity.2.1 77 = .ok (.aload_n 0, 1) := by decide +kernel
theorem d_M_readEntity_78 : decode m_M_readEntity.2.1 78 = .ok (.invokevirtual 174, 3) := by decide +kernel
theorem d_M_readEntity_81 : decode m_M_readEntity.2.1 81 = .ok (.bipush 118, 2) := by decide +kernel
theorem d_M_readEntity_83 : decode m_M_readEntity.2.1 83 = .ok (.if_icmp .ne 16, 3) := by decide +kernel
theorem d_M_readEntity_86 : decode m_M_readEntity.2.1 86 = .ok (.aload_n 0, 1) := by decide +kernel
theorem d_M_readEntity_87 : decode m_M_readEntity.2.1 87 = .ok (.dup, 1) := by decide +kernel
theorem d_M_readEntity_88 : decode m_M_readEntity.2.1 88 = .ok (.getfield 168, 3) := by decide +kernel
theorem d_M_readEntity_91 : decode m_M_readEntity.2.1 91 = .ok (.iconst 1, 1) := by decide +kernel
theorem d_M_readEntity_92 : decode m_M_readEntity.2.1 92 = .ok (.iadd, 1) := by decide +kernel
theorem d_M_readEntity_93 : decode m_M_readEntity.2.1 93 = .ok (.putfield 168, 3) := by decide +kernel
theorem d_M_readEntity_96 : decode m_M_readEntity.2.1 96 = .ok (.goto 107, 3) := by decide +kernel
theorem d_M_readEntity_99 : decode m_M_readEntity.2.1 99 = .ok (.aload_n 0, 1) := by decide +kernel
theorem d_M_readEntity_100 : decode m_M_readEntity.2.1 100 = .ok (.getfield 171, 3) := by decide +kernel
theorem d_M_readEntity_103 : decode m_M_readEntity.2.1 103 = .ok (.ifCond .ne 100, 3) := by decide +kernel
theorem d_M_readEntity_106 : decode m_M_readEntity.2.1 106 = .ok (.iload_n 3, 1) := by decide +kernel
theorem d_M_readEntity_107 : decode m_M_readEntity.2.1 107 = .ok (.ifCond .eq 14, 3) := by decide +kernel
theorem d_M_readEntity_110 : decode m_M_readEntity.2.1 110 = .ok (.aload_n 0, 1) := by decide +kernel
theorem d_M_readEntity_111 : decode m_M_readEntity.2.1 111 = .ok (.getfield 168, 3) := by decide +kernel
theorem d_M_readEntity_114 : decode m_M_readEntity.2.1 114 = .ok (.aload_n 0, 1) := by decide +kernel
theorem d_M_readEntity_115 : decode m_M_readEntity.2.1 115 = .ok (.getfield 157, 3) := by decide +kernel
theorem d_M_readEntity_118 : decode m_M_readEntity.2.1 118 = .ok (.if_icmp .ge 85, 3) := by decide +kernel
theorem d_M_readEntity_121 : decode m_M_readEntity.2.1 121 = .ok (.aload_n 0, 1) := by decide +kernel
theorem d_M_readEntity_122 : decode m_M_readEntity.2.1 122 = .ok (.iconst 1, 1) := by decide +kernel
theorem d_M_readEntity_123 : decode m_M_readEntity.2.1 123 = .ok (.invokevirtual 245, 3) := by decide +kernel
theorem d_M_readEntity_126 : decode m_M_readEntity.2.1 126 = .ok (.istore 4, 2) := by decide +kernel
theorem d_M_readEntity_128 : decode m_M_readEntity.2.1 128 = .ok (.aload_n 0, 1) := by decide +kernel
theorem d_M_readEntity_129 : decode m_M_readEntity.2.1 129 = .ok (.aload_n 0, 1) := by decide +kernel
theorem d_M_readEntity_130 : decode m_M_readEntity.2.1 130 = .ok (.getfield 171, 3) := by decide +kernel
theorem d_M_readEntity_133 : decode m_M_readEntity.2.1 133 = .ok (.ifCond .ne 28, 3) := by decide +kernel
theorem d_M_readEntity_136 : decode m_M_readEntity.2.1 136 = .ok (.iload_n 3, 1) := by decide +kernel
theorem d_M_readEntity_137 : decode m_M_readEntity.2.1 137 = .ok (.iconst 3, 1) := by decide +kernel
theorem d_M_readEntity_138 : decode m_M_readEntity.2.1 138 = .ok (.if_icmp .eq 23, 3) := by decide +kernel
theorem d_M_readEntity_141 : decode m_M_readEntity.2.1 141 = .ok (.aload_n 0, 1) := by decide +kernel
theorem d_M_readEntity_142 : decode m_M_readEntity.2.1 142 = .ok (.getfield 7, 3) := by decide +kernel
theorem d_M_readEntity_145 : decode m_M_readEntity.2.1 145 = .ok (.iload 4, 2) := by decide +kernel
theorem d_M_readEntity_147 : decode m_M_readEntity.2.1 147 = .ok (.iaload, 1) := by decide +kernel
theorem d_M_readEntity_148 : decode m_M_readEntity.2.1 148 = .ok (.ifCond .ne 17, 3) := by decide +kernel
theorem d_M_readEntity_151 : decode m_M_readEntity.2.1 151 = .ok (.aload_n 0, 1) := by decide +kernel
theorem d_M_readEntity_152 : decode m_M_readEntity.2.1 152 = .ok (.getfield 13, 3) := by decide +kernel
theorem d_M_readEntity_155 : decode m_M_readEntity.2.1 155 = .ok (.iload 4, 2) := by decide +kernel
theorem d_M_readEntity_157 : decode m_M_readEntity.2.1 157 = .ok (.iaload, 1) := by decide +kernel
theorem d_M_readEntity_158 : decode m_M_readEntity.2.1 158 = .ok (.ifCond .ne 7, 3) := by decide +kernel
theorem d_M_readEntity_161 : decode m_M_readEntity.2.1 161 = .ok (.iconst 1, 1) := by decide +kernel
theorem d_M_readEntity_162 : decode m_M_readEntity.2.1 162 = .ok (.goto 4, 3) := by decide +kernel
theorem d_M_readEntity_165 : decode m_M_readEntity.2.1 165 = .ok (.iconst 0, 1) := by decide +kernel
theorem d_M_readEntity_166 : decode m_M_readEntity.2.1 166 = .ok (.putfield 171, 3) := by decide +kernel
theorem d_M_readEntity_169 : decode m_M_readEntity.2.1 169 = .ok (.aload_n 0, 1) := by decide +kernel
theorem d_M_readEntity_170 : decode m_M_readEntity.2.1 170 = .ok (.getfield 49, 3) := by decide +kernel
theorem d_M_readEntity_173 : decode m_M_readEntity.2.1 173 = .ok (.iload_n 3, 1) := by decide +kernel
theorem d_M_readEntity_174 : decode m_M_readEntity.2.1 174 = .ok (.iconst 3, 1) := by decide +kernel
theorem d_M_readEntity_175 : decode m_M_readEntity.2.1 175 = .ok (.if_icmp .ge 7, 3) := by decide +kernel
theorem d_M_readEntity_178 : decode m_M_readEntity.2.1 178 = .ok (.iload_n 3, 1) := by decide +kernel
theorem d_M_readEntity_179 : decode m_M_readEntity.2.1 179 = .ok (.goto 4, 3) := by decide +kernel
theorem d_M_readEntity_182 : decode m_M_readEntity.2.1 182 = .ok (.iconst 0, 1) := by decide +kernel
theorem d_M_readEntity_183 : decode m_M_readEntity.2.1 183 = .ok (.aload_n 0, 1) := by decide +kernel
theorem d_M_readEntity_184 : decode m_M_readEntity.2.1 184 = .ok (.getfield 171, 3) := by decide +kernel
theorem d_M_readEntity_187 : decode m_M_readEntity.2.1 187 = .ok (.ifCond .eq 7, 3) := by decide +kernel
theorem d_M_readEntity_190 : decode m_M_readEntity.2.1 190 = .ok (.iconst (-1), 1) := by decide +kernel
theorem d_M_readEntity_191 : decode m_M_readEntity.2.1 191 = .ok (.goto 5, 3) := by decide +kernel
theorem d_M_readEntity_194 : decode m_M_readEntity.2.1 194 = .ok (.iload 4, 2) := by decide +kernel
theorem d_M_readEntity_196 : decode m_M_readEntity.2.1 196 = .ok (.iastore, 1) := by decide +kernel
theorem d_M_readEntity_197 : decode m_M_readEntity.2.1 197 = .ok (.iinc 3 1, 3) := by decide +kernel
theorem d_M_readEntity_200 : decode m_M_readEntity.2.1 200 = .ok (.goto (-101), 3) := by decide +kernel
theorem d_M_readEntity_203 : decode m_M_readEntity.2.1 203 = .ok (.aload_n 0, 1) := by decide +kernel
theorem d_M_readEntity_204 : decode m_M_readEntity.2.1 204 = .ok (.aload_n 0, 1) := by decide +kernel
theorem d_M_readEntity_205 : decode m_M_readEntity.2.1 205 = .ok (.getfield 171, 3) := by decide +kernel
theorem d_M_readEntity_208 : decode m_M_readEntity.2.1 208 = .ok (.ifCond .ne 14, 3) := by decide +kernel
theorem d_M_readEntity_211 : decode m_M_readEntity.2.1 211 = .ok (.aload_n 0, 1) := by decide +kernel
theorem d_M_readEntity_212 : decode m_M_readEntity.2.1 212 = .ok (.getfield 168, 3) := by decide +kernel
theorem d_M_readEntity_215 : decode m_M_readEntity.2.1 215 = .ok (.aload_n 0, 1) := by decide +kernel
theorem d_M_readEntity_216 : decode m_M_readEntity.2.1 216 = .ok (.getfield 157, 3) := by decide +kernel
theorem d_M_readEntity_219 : decode m_M_readEntity.2.1 219 = .ok (.if_icmp .eq 7, 3) := by decide +kernel
theorem d_M_readEntity_222 : decode m_M_readEntity.2.1 222 = .ok (.iconst 1, 1) := by decide +kernel
theorem d_M_readEntity_223 : decode m_M_readEntity.2.1 223 = .ok (.goto 4, 3) := by decide +kernel
theorem d_M_readEntity_226 : decode m_M_readEntity.2.1 226 = .ok (.iconst 0, 1) := by decide +kernel
theorem d_M_readEntity_227 : decode m_M_readEntity.2.1 227 = .ok (.putfield 171, 3) := by decide +kernel
theorem d_M_readEntity_230 : decode m_M_readEntity.2.1 230 = .ok (.aload_n 0, 1) := by decide +kernel
theorem d_M_readEntity_231 : decode m_M_readEntity.2.1 231 = .ok (.bipush 10, 2) := by decide +kernel
theorem d_M_readEntity_233 : decode m_M_readEntity.2.1 233 = .ok (.iconst 0, 1) := by decide +kernel
theorem d_M_readEntity_234 : decode m_M_readEntity.2.1 234 = .ok (.iload_n 1, 1) := by decide +kernel
theorem d_M_readEntity_235 : decode m_M_readEntity.2.1 235 = .ok (.iload_n 2, 1) := by decide +kernel
theorem d_M_readEntity_236 : decode m_M_readEntity.2.1 236 = .ok (.aload_n 0, 1) := by decide +kernel
theorem d_M_readEntity_237 : decode m_M_readEntity.2.1 237 = .ok (.getfield 49, 3) := by decide +kernel
theorem d_M_readEntity_240 : decode m_M_readEntity.2.1 240 = .ok (.iconst 0, 1) := by decide +kernel
theorem d_M_readEntity_241 : decode m_M_readEntity.2.1 241 = .ok (.iaload, 1) := by decide +kernel
theorem d_M_readEntity_242 : decode m_M_readEntity.2.1 242 = .ok (.aload_n 0, 1) := by decide +kernel
theorem d_M_readEntity_243 : decode m_M_readEntity.2.1 243 = .ok (.getfield 49, 3) := by decide +kernel
theorem d_M_readEntity_246 : decode m_M_readEntity.2.1 246 = .ok (.iconst 1, 1) := by decide +kernel
theorem d_M_readEntity_247 : decode m_M_readEntity.2.1 247 = .ok (.iaload, 1) := by decide +kernel
theorem d_M_readEntity_248 : decode m_M_readEntity.2.1 248 = .ok (.aload_n 0, 1) := by decide +kernel
theorem d_M_readEntity_249 : decode m_M_readEntity.2.1 249 = .ok (.getfield 49, 3) := by decide +kernel
theorem d_M_readEntity_252 : decode m_M_readEntity.2.1 252 = .ok (.iconst 2, 1) := by decide +kernel
theorem d_M_readEntity_253 : decode m_M_readEntity.2.1 253 = .ok (.iaload, 1) := by decide +kernel
theorem d_M_readEntity_254 : decode m_M_readEntity.2.1 254 = .ok (.invokevirtual 190, 3) := by decide +kernel
theorem d_M_readEntity_257 : decode m_M_readEntity.2.1 257 = .ok (.ireturn, 1) := by decide +kernel
theorem d_M_expect_0 : decode m_M_expect.2.1 0 = .ok (.aload_n 0, 1) := by decide +kernel
theorem d_M_expect_1 : decode m_M_expect.2.1 1 = .ok (.aload_n 0, 1) := by decide +kernel
theorem d_M_expect_2 : decode m_M_expect.2.1 2 = .ok (.getfield 171, 3) := by decide +kernel
theorem d_M_expect_5 : decode m_M_expect.2.1 5 = .ok (.ifCond .ne 11, 3) := by decide +kernel
theorem d_M_expect_8 : decode m_M_expect.2.1 8 = .ok (.aload_n 0, 1) := by decide +kernel
theorem d_M_expect_9 : decode m_M_expect.2.1 9 = .ok (.invokevirtual 174, 3) := by decide +kernel
theorem d_M_expect_12 : decode m_M_expect.2.1 12 = .ok (.iload_n 1, 1) := by decide +kernel
theorem d_M_expect_13 : decode m_M_expect.2.1 13 = .ok (.if_icmp .eq 7, 3) := by decide +kernel
theorem d_M_expect_16 : decode m_M_expect.2.1 16 = .ok (.iconst 1, 1) := by decide +kernel
theorem d_M_expect_17 : decode m_M_expect.2.1 17 = .ok (.goto 4, 3) := by decide +kernel
theorem d_M_expect_20 : decode m_M_expect.2.1 20 = .ok (.iconst 0, 1) := by decide +kernel
theorem d_M_expect_21 : decode m_M_expect.2.1 21 = .ok (.putfield 171, 3) := by decide +kernel
theorem d_M_expect_24 : decode m_M_expect.2.1 24 = .ok (.aload_n 0, 1) := by decide +kernel
theorem d_M_expect_25 : decode m_M_expect.2.1 25 = .ok (.dup, 1) := by decide +kernel
theorem d_M_expect_26 : decode m_M_expect.2.1 26 = .ok (.getfield 168, 3) := by decide +kernel
theorem d_M_expect_29 : decode m_M_expect.2.1 29 = .ok (.iconst 1, 1) := by decide +kernel
theorem d_M_expect_30 : decode m_M_expect.2.1 30 = .ok (.iadd, 1) := by decide +kernel
theorem d_M_expect_31 : decode m_M_expect.2.1 31 = .ok (.putfield 168, 3) := by decide +kernel
theorem d_M_expect_34 : decode m_M_expect.2.1 34 = .ok (.return_, 1) := by decide +kernel
theorem d_M_peek_0 : decode m_M_peek.2.1 0 = .ok (.aload_n 0, 1) := by decide +kernel
theorem d_M_peek_1 : decode m_M_peek.2.1 1 = .ok (.getfield 168, 3) := by decide +kernel
theorem d_M_peek_4 : decode m_M_peek.2.1 4 = .ok (.aload_n 0, 1) := by decide +kernel
theorem d_M_peek_5 : decode m_M_peek.2.1 5 = .ok (.getfield 157, 3) := by decide +kernel
theorem d_M_peek_8 : decode m_M_peek.2.1 8 = .ok (.if_icmp .ge 15, 3) := by decide +kernel
theorem d_M_peek_11 : decode m_M_peek.2.1 11 = .ok (.aload_n 0, 1) := by decide +kernel
theorem d_M_peek_12 : decode m_M_peek.2.1 12 = .ok (.getfield 28, 3) := by decide +kernel
theorem d_M_peek_15 : decode m_M_peek.2.1 15 = .ok (.aload_n 0, 1) := by decide +kernel
theorem d_M_peek_16 : decode m_M_peek.2.1 16 = .ok (.getfield 168, 3) := by decide +kernel
theorem d_M_peek_19 : decode m_M_peek.2.1 19 = .ok (.iaload, 1) := by decide +kernel
theorem d_M_peek_20 : decode m_M_peek.2.1 20 = .ok (.goto 4, 3) := by decide +kernel
theorem d_M_peek_23 : decode m_M_peek.2.1 23 = .ok (.iconst 0, 1) := by decide +kernel
theorem d_M_peek_24 : decode m_M_peek.2.1 24 = .ok (.ireturn, 1) := by decide +kernel
theorem d_M_begin_0 : decode m_M_begin.2.1 0 = .ok (.aload_n 0, 1) := by decide +kernel
theorem d_M_begin_1 : decode m_M_begin.2.1 1 = .ok (.iload_n 1, 1) := by decide +kernel
theorem d_M_begin_2 : decode m_M_begin.2.1 2 = .ok (.iload_n 2, 1) := by decide +kernel
theorem d_M_begin_3 : decode m_M_begin.2.1 3 = .ok (.invokevirtual 123, 3) := by decide +kernel
theorem d_M_begin_6 : decode m_M_begin.2.1 6 = .ok (.aload_n 0, 1) := by decide +kernel
theorem d_M_begin_7 : decode m_M_begin.2.1 7 = .ok (.getfield 46, 3) := by decide +kernel
theorem d_M_begin_10 : decode m_M_begin.2.1 10 = .ok (.aload_n 0, 1) := by decide +kernel
theorem d_M_begin_11 : decode m_M_begin.2.1 11 = .ok (.getfield 120, 3) := by decide +kernel
theorem d_M_begin_14 : decode m_M_begin.2.1 14 = .ok (.iconst 1, 1) := by decide +kernel
theorem d_M_begin_15 : decode m_M_begin.2.1 15 = .ok (.isub, 1) := by decide +kernel
theorem d_M_begin_16 : decode m_M_begin.2.1 16 = .ok (.iload_n 3, 1) := by decide +kernel
theorem d_M_begin_17 : decode m_M_begin.2.1 17 = .ok (.iastore, 1) := by decide +kernel
theorem d_M_begin_18 : decode m_M_begin.2.1 18 = .ok (.iconst 0, 1) := by decide +kernel
theorem d_M_begin_19 : decode m_M_begin.2.1 19 = .ok (.istore 4, 2) := by decide +kernel
theorem d_M_begin_21 : decode m_M_begin.2.1 21 = .ok (.iload 4, 2) := by decide +kernel
theorem d_M_begin_23 : decode m_M_begin.2.1 23 = .ok (.iconst 3, 1) := by decide +kernel
theorem d_M_begin_24 : decode m_M_begin.2.1 24 = .ok (.if_icmp .ge 26, 3) := by decide +kernel
theorem d_M_begin_27 : decode m_M_begin.2.1 27 = .ok (.aload_n 0, 1) := by decide +kernel
theorem d_M_begin_28 : decode m_M_begin.2.1 28 = .ok (.getfield 49, 3) := by decide +kernel
theorem d_M_begin_31 : decode m_M_begin.2.1 31 = .ok (.iconst 3, 1) := by decide +kernel
theorem d_M_begin_32 : decode m_M_begin.2.1 32 = .ok (.aload_n 0, 1) := by decide +kernel
theorem d_M_begin_33 : decode m_M_begin.2.1 33 = .ok (.getfield 120, 3) := by decide +kernel
theorem d_M_begin_36 : decode m_M_begin.2.1 36 = .ok (.iconst 1, 1) := by decide +kernel
theorem d_M_begin_37 : decode m_M_begin.2.1 37 = .ok (.isub, 1) := by decide +kernel
theorem d_M_begin_38 : decode m_M_begin.2.1 38 = .ok (.imul, 1) := by decide +kernel
theorem d_M_begin_39 : decode m_M_begin.2.1 39 = .ok (.iload 4, 2) := by decide +kernel
theorem d_M_begin_41 : decode m_M_begin.2.1 41 = .ok (.iadd, 1) := by decide +kernel
theorem d_M_begin_42 : decode m_M_begin.2.1 42 = .ok (.iconst (-1), 1) := by decide +kernel
theorem d_M_begin_43 : decode m_M_begin.2.1 43 = .ok (.iastore, 1) := by decide +kernel
theorem d_M_begin_44 : decode m_M_begin.2.1 44 = .ok (.iinc 4 1, 3) := by decide +kernel
theorem d_M_begin_47 : decode m_M_begin.2.1 47 = .ok (.goto (-26), 3) := by decide +kernel
theorem d_M_begin_50 : decode m_M_begin.2.1 50 = .ok (.return_, 1) := by decide +kernel
theorem d_M_scoped_0 : decode m_M_scoped.2.1 0 = .ok (.iconst (-1), 1) := by decide +kernel
theorem d_M_scoped_1 : decode m_M_scoped.2.1 1 = .ok (.istore_n 1, 1) := by decide +kernel
theorem d_M_scoped_2 : decode m_M_scoped.2.1 2 = .ok (.aload_n 0, 1) := by decide +kernel
theorem d_M_scoped_3 : decode m_M_scoped.2.1 3 = .ok (.invokevirtual 174, 3) := by decide +kernel
theorem d_M_scoped_6 : decode m_M_scoped.2.1 6 = .ok (.bipush 78, 2) := by decide +kernel
theorem d_M_scoped_8 : decode m_M_scoped.2.1 8 = .ok (.if_icmp .ne 25, 3) := by decide +kernel
theorem d_M_scoped_11 : decode m_M_scoped.2.1 11 = .ok (.aload_n 0, 1) := by decide +kernel
theorem d_M_scoped_12 : decode m_M_scoped.2.1 12 = .ok (.dup, 1) := by decide +kernel
theorem d_M_scoped_13 : decode m_M_scoped.2.1 13 = .ok (.getfield 168, 3) := by decide +kernel
theorem d_M_scoped_16 : decode m_M_scoped.2.1 16 = .ok (.iconst 1, 1) := by decide +kernel
theorem d_M_scoped_17 : decode m_M_scoped.2.1 17 = .ok (.iadd, 1) := by decide +kernel
theorem d_M_scoped_18 : decode m_M_scoped.2.1 18 = .ok (.putfield 168, 3) := by decide +kernel
theorem d_M_scoped_21 : decode m_M_scoped.2.1 21 = .ok (.aload_n 0, 1) := by decide +kernel
theorem d_M_scoped_22 : decode m_M_scoped.2.1 22 = .ok (.aload_n 0, 1) := by decide +kernel
theorem d_M_scoped_23 : decode m_M_scoped.2.1 23 = .ok (.invokevirtual 214, 3) := by decide +kernel
theorem d_M_scoped_26 : decode m_M_scoped.2.1 26 = .ok (.invokevirtual 236, 3) := by decide +kernel
theorem d_M_scoped_29 : decode m_M_scoped.2.1 29 = .ok (.istore_n 1, 1) := by decide +kernel
theorem d_M_scoped_30 : decode m_M_scoped.2.1 30 = .ok (.goto 43, 3) := by decide +kernel
theorem d_M_scoped_33 : decode m_M_scoped.2.1 33 = .ok (.aload_n 0, 1) := by decide +kernel
theorem d_M_scoped_34 : decode m_M_scoped.2.1 34 = .ok (.aload_n 0, 1) := by decide +kernel
theorem d_M_scoped_35 : decode m_M_scoped.2.1 35 = .ok (.invokevirtual 205, 3) := by decide +kernel
theorem d_M_scoped_38 : decode m_M_scoped.2.1 38 = .ok (.invokevirtual 208, 3) := by decide +kernel
theorem d_M_scoped_41 : decode m_M_scoped.2.1 41 = .ok (.istore_n 1, 1) := by decide +kernel
theorem d_M_scoped_42 : decode m_M_scoped.2.1 42 = .ok (.aload_n 0, 1) := by decide +kernel
theorem d_M_scoped_43 : decode m_M_scoped.2.1 43 = .ok (.invokevirtual 174, 3) := by decide +kernel
theorem d_M_scoped_46 : decode m_M_scoped.2.1 46 = .ok (.bipush 73, 2) := by decide +kernel
theorem d_M_scoped_48 : decode m_M_scoped.2.1 48 = .ok (.if_icmp .ne 25, 3) := by decide +kernel
theorem d_M_scoped_51 : decode m_M_scoped.2.1 51 = .ok (.aload_n 0, 1) := by decide +kernel
theorem d_M_scoped_52 : decode m_M_scoped.2.1 52 = .ok (.getfield 171, 3) := by decide +kernel
theorem d_M_scoped_55 : decode m_M_scoped.2.1 55 = .ok (.ifCond .ne 18, 3) := by decide +kernel
theorem d_M_scoped_58 : decode m_M_scoped.2.1 58 = .ok (.aload_n 0, 1) := by decide +kernel
theorem d_M_scoped_59 : decode m_M_scoped.2.1 59 = .ok (.iload_n 1, 1) := by decide +kernel
theorem d_M_scoped_60 : decode m_M_scoped.2.1 60 = .ok (.invokevirtual 211, 3) := by decide +kernel
theorem d_M_scoped_63 : decode m_M_scoped.2.1 63 = .ok (.aload_n 0, 1) := by decide +kernel
theorem d_M_scoped_64 : decode m_M_scoped.2.1 64 = .ok (.aload_n 0, 1) := by decide +kernel
theorem d_M_scoped_65 : decode m_M_scoped.2.1 65 = .ok (.iload_n 1, 1) := by decide +kernel
theorem d_M_scoped_66 : decode m_M_scoped.2.1 66 = .ok (.invokevirtual 202, 3) := by decide +kernel
theorem d_M_scoped_69 : decode m_M_scoped.2.1 69 = .ok (.invokevirtual 236, 3) := by decide +kernel
theorem d_M_scoped_72 : decode m_M_scoped.2.1 72 = .ok (.istore_n 1, 1) := by decide +kernel
theorem d_M_scoped_73 : decode m_M_scoped.2.1 73 = .ok (.aload_n 0, 1) := by decide +kernel
theorem d_M_scoped_74 : decode m_M_scoped.2.1 74 = .ok (.getfield 171, 3) := by decide +kernel
theorem d_M_scoped_77 : decode m_M_scoped.2.1 77 = .ok (.ifCond .ne 39, 3) := by decide +kernel
theorem d_M_scoped_80 : decode m_M_scoped.2.1 80 = .ok (.iload_n 1, 1) := by decide +kernel
theorem d_M_scoped_81 : decode m_M_scoped.2.1 81 = .ok (.ifCond .lt 11, 3) := by decide +kernel
theorem d_M_scoped_84 : decode m_M_scoped.2.1 84 = .ok (.aload_n 0, 1) := by decide +kernel
theorem d_M_scoped_85 : decode m_M_scoped.2.1 85 = .ok (.getfield 120, 3) := by decide +kernel
theorem d_M_scoped_88 : decode m_M_scoped.2.1 88 = .ok (.iconst 1, 1) := by decide +kernel
theorem d_M_scoped_89 : decode m_M_scoped.2.1 89 = .ok (.if_icmp .le 27, 3) := by decide +kernel
theorem d_M_scoped_92 : decode m_M_scoped.2.1 92 = .ok (.aload_n 0, 1) := by decide +kernel
theorem d_M_scoped_93 : decode m_M_scoped.2.1 93 = .ok (.iload_n 1, 1) := by decide +kernel
theorem d_M_scoped_94 : decode m_M_scoped.2.1 94 = .ok (.ifCond .ge 10, 3) := by decide +kernel
theorem d_M_scoped_97 : decode m_M_scoped.2.1 97 = .ok (.aload_n 0, 1) := by decide +kernel
theorem d_M_scoped_98 : decode m_M_scoped.2.1 98 = .ok (.invokevirtual 233, 3) := by decide +kernel
theorem d_M_scoped_101 : decode m_M_scoped.2.1 101 = .ok (.goto 8, 3) := by decide +kernel
theorem d_M_scoped_104 : decode m_M_scoped.2.1 104 = .ok (.aload_n 0, 1) := by decide +kernel
theorem d_M_scoped_105 : decode m_M_scoped.2.1 105 = .ok (.iload_n 1, 1) := by decide +kernel
theorem d_M_scoped_106 : decode m_M_scoped.2.1 106 = .ok (.invokevirtual 239, 3) := by decide +kernel
theorem d_M_scoped_109 : decode m_M_scoped.2.1 109 = .ok (.invokevirtual 236, 3) := by decide +kernel
theorem d_M_scoped_112 : decode m_M_scoped.2.1 112 = .ok (.istore_n 1, 1) := by decide +kernel
theorem d_M_scoped_113 : decode m_M_scoped.2.1 113 = .ok (.goto (-40), 3) := by decide +kernel
theorem d_M_scoped_116 : decode m_M_scoped.2.1 116 = .ok (.iload_n 1, 1) := by decide +kernel
theorem d_M_scoped_117 : decode m_M_scoped.2.1 117 = .ok (.ireturn, 1) := by decide +kernel
theorem d_M_beginNest_0 : decode m_M_beginNest.2.1 0 = .ok (.aload_n 0, 1) := by decide +kernel
theorem d_M_beginNest_1 : decode m_M_beginNest.2.1 1 = .ok (.invokevirtual 174, 3) := by decide +kernel
theorem d_M_beginNest_4 : decode m_M_beginNest.2.1 4 = .ok (.bipush 83, 2) := by decide +kernel
theorem d_M_beginNest_6 : decode m_M_beginNest.2.1 6 = .ok (.if_icmp .ne 7, 3) := by decide +kernel
theorem d_M_beginNest_9 : decode m_M_beginNest.2.1 9 = .ok (.iconst 1, 1) := by decide +kernel
theorem d_M_beginNest_10 : decode m_M_beginNest.2.1 10 = .ok (.goto 4, 3) := by decide +kernel
theorem d_M_beginNest_13 : decode m_M_beginNest.2.1 13 = .ok (.iconst 0, 1) := by decide +kernel
theorem d_M_beginNest_14 : decode m_M_beginNest.2.1 14 = .ok (.istore_n 1, 1) := by decide +kernel
theorem d_M_beginNest_15 : decode m_M_beginNest.2.1 15 = .ok (.iload_n 1, 1) := by decide +kernel
theorem d_M_beginNest_16 : decode m_M_beginNest.2.1 16 = .ok (.ifCond .eq 10, 3) := by decide +kernel
theorem d_M_beginNest_19 : decode m_M_beginNest.2.1 19 = .ok (.aload_n 0, 1) := by decide +kernel
theorem d_M_beginNest_20 : decode m_M_beginNest.2.1 20 = .ok (.invokevirtual 199, 3) := by decide +kernel
theorem d_M_beginNest_23 : decode m_M_beginNest.2.1 23 = .ok (.goto 11, 3) := by decide +kernel
theorem d_M_beginNest_26 : decode m_M_beginNest.2.1 26 = .ok (.aload_n 0, 1) := by decide +kernel
theorem d_M_beginNest_27 : decode m_M_beginNest.2.1 27 = .ok (.aload_n 0, 1) := by decide +kernel
theorem d_M_beginNest_28 : decode m_M_beginNest.2.1 28 = .ok (.invokevirtual 205, 3) := by decide +kernel
theorem d_M_beginNest_31 : decode m_M_beginNest.2.1 31 = .ok (.invokevirtual 208, 3) := by decide +kernel
theorem d_M_beginNest_34 : decode m_M_beginNest.2.1 34 = .ok (.istore_n 2, 1) := by decide +kernel
theorem d_M_beginNest_35 : decode m_M_beginNest.2.1 35 = .ok (.aload_n 0, 1) := by decide +kernel
theorem d_M_beginNest_36 : decode m_M_beginNest.2.1 36 = .ok (.aload_n 0, 1) := by decide +kernel
theorem d_M_beginNest_37 : decode m_M_beginNest.2.1 37 = .ok (.getfield 171, 3) := by decide +kernel
theorem d_M_beginNest_40 : decode m_M_beginNest.2.1 40 = .ok (.ifCond .ne 23, 3) := by decide +kernel
theorem d_M_beginNest_43 : decode m_M_beginNest.2.1 43 = .ok (.aload_n 0, 1) := by decide +kernel
theorem d_M_beginNest_44 : decode m_M_beginNest.2.1 44 = .ok (.getfield 7, 3) := by decide +kernel
theorem d_M_beginNest_47 : decode m_M_beginNest.2.1 47 = .ok (.iload_n 2, 1) := by decide +kernel
theorem d_M_beginNest_48 : decode m_M_beginNest.2.1 48 = .ok (.iaload, 1) := by decide +kernel
theorem d_M_beginNest_49 : decode m_M_beginNest.2.1 49 = .ok (.iconst 1, 1) := by decide +kernel
theorem d_M_beginNest_50 : decode m_M_beginNest.2.1 50 = .ok (.if_icmp .lt 13, 3) := by decide +kernel
theorem d_M_beginNest_53 : decode m_M_beginNest.2.1 53 = .ok (.aload_n 0, 1) := by decide +kernel
theorem d_M_beginNest_54 : decode m_M_beginNest.2.1 54 = .ok (.getfield 7, 3) := by decide +kernel
theorem d_M_beginNest_57 : decode m_M_beginNest.2.1 57 = .ok (.iload_n 2, 1) := by decide +kernel
theorem d_M_beginNest_58 : decode m_M_beginNest.2.1 58 = .ok (.iaload, 1) := by decide +kernel
theorem d_M_beginNest_59 : decode m_M_beginNest.2.1 59 = .ok (.iconst 3, 1) := by decide +kernel
theorem d_M_beginNest_60 : decode m_M_beginNest.2.1 60 = .ok (.if_icmp .le 7, 3) := by decide +kernel
theorem d_M_beginNest_63 : decode m_M_beginNest.2.1 63 = .ok (.iconst 1, 1) := by decide +kernel
theorem d_M_beginNest_64 : decode m_M_beginNest.2.1 64 = .ok (.goto 4, 3) := by decide +kernel
theorem d_M_beginNest_67 : decode m_M_beginNest.2.1 67 = .ok (.iconst 0, 1) := by decide +kernel
theorem d_M_beginNest_68 : decode m_M_beginNest.2.1 68 = .ok (.putfield 171, 3) := by decide +kernel
theorem d_M_beginNest_71 : decode m_M_beginNest.2.1 71 = .ok (.aload_n 0, 1) := by decide +kernel
theorem d_M_beginNest_72 : decode m_M_beginNest.2.1 72 = .ok (.bipush 8, 2) := by decide +kernel
theorem d_M_beginNest_74 : decode m_M_beginNest.2.1 74 = .ok (.iload_n 2, 1) := by decide +kernel
theorem d_M_beginNest_75 : decode m_M_beginNest.2.1 75 = .ok (.iload_n 1, 1) := by decide +kernel
theorem d_M_beginNest_76 : decode m_M_beginNest.2.1 76 = .ok (.ifCond .eq 7, 3) := by decide +kernel
theorem d_M_beginNest_79 : decode m_M_beginNest.2.1 79 = .ok (.iconst 1, 1) := by decide +kernel
theorem d_M_beginNest_80 : decode m_M_beginNest.2.1 80 = .ok (.goto 4, 3) := by decide +kernel
theorem d_M_beginNest_83 : decode m_M_beginNest.2.1 83 = .ok (.iconst 0, 1) := by decide +kernel
theorem d_M_beginNest_84 : decode m_M_beginNest.2.1 84 = .ok (.invokevirtual 217, 3) := by decide +kernel
theorem d_M_beginNest_87 : decode m_M_beginNest.2.1 87 = .ok (.aload_n 0, 1) := by decide +kernel
theorem d_M_beginNest_88 : decode m_M_beginNest.2.1 88 = .ok (.aload_n 0, 1) := by decide +kernel
theorem d_M_beginNest_89 : decode m_M_beginNest.2.1 89 = .ok (.getfield 171, 3) := by decide +kernel
theorem d_M_beginNest_92 : decode m_M_beginNest.2.1 92 = .ok (.ifCond .ne 12, 3) := by decide +kernel
theorem d_M_beginNest_95 : decode m_M_beginNest.2.1 95 = .ok (.aload_n 0, 1) := by decide +kernel
theorem d_M_beginNest_96 : decode m_M_beginNest.2.1 96 = .ok (.invokevirtual 174, 3) := by decide +kernel
theorem d_M_beginNest_99 : decode m_M_beginNest.2.1 99 = .ok (.bipush 69, 2) := by decide +kernel
theorem d_M_beginNest_101 : decode m_M_beginNest.2.1 101 = .ok (.if_icmp .ne 7, 3) := by decide +kernel
theorem d_M_beginNest_104 : decode m_M_beginNest.2.1 104 = .ok (.iconst 1, 1) := by decide +kernel
theorem d_M_beginNest_105 : decode m_M_beginNest.2.1 105 = .ok (.goto 4, 3) := by decide +kernel
theorem d_M_beginNest_108 : decode m_M_beginNest.2.1 108 = .ok (.iconst 0, 1) := by decide +kernel
theorem d_M_beginNest_109 : decode m_M_beginNest.2.1 109 = .ok (.putfield 171, 3) := by decide +kernel
theorem d_M_beginNest_112 : decode m_M_beginNest.2.1 112 = .ok (.aload_n 0, 1) := by decide +kernel
theorem d_M_beginNest_113 : decode m_M_beginNest.2.1 113 = .ok (.invokevirtual 230, 3) := by decide +kernel
theorem d_M_beginNest_116 : decode m_M_beginNest.2.1 116 = .ok (.ireturn, 1) := by decide +kernel
theorem d_M_readTold_0 : decode m_M_readTold.2.1 0 = .ok (.aload_n 0, 1) := by decide +kernel
theorem d_M_readTold_1 : decode m_M_readTold.2.1 1 = .ok (.bipush 83, 2) := by decide +kernel
theorem d_M_readTold_3 : decode m_M_readTold.2.1 3 = .ok (.invokevirtual 184, 3) := by decide +kernel
theorem d_M_readTold_6 : decode m_M_readTold.2.1 6 = .ok (.iconst 0, 1) := by decide +kernel
theorem d_M_readTold_7 : decode m_M_readTold.2.1 7 = .ok (.istore_n 1, 1) := by decide +kernel
theorem d_M_readTold_8 : decode m_M_readTold.2.1 8 = .ok (.iconst 0, 1) := by decide +kernel
theorem d_M_readTold_9 : decode m_M_readTold.2.1 9 = .ok (.istore_n 2, 1) := by decide +kernel
theorem d_M_readTold_10 : decode m_M_readTold.2.1 10 = .ok (.aload_n 0, 1) := by decide +kernel
theorem d_M_readTold_11 : decode m_M_readTold.2.1 11 = .ok (.invokevirtual 174, 3) := by decide +kernel
theorem d_M_readTold_14 : decode m_M_readTold.2.1 14 = .ok (.istore_n 3, 1) := by decide +kernel
theorem d_M_readTold_15 : decode m_M_readTold.2.1 15 = .ok (.aload_n 0, 1) := by decide +kernel
theorem d_M_readTold_16 : decode m_M_readTold.2.1 16 = .ok (.invokevirtual 174, 3) := by decide +kernel
theorem d_M_readTold_19 : decode m_M_readTold.2.1 19 = .ok (.invokestatic 187, 3) := by decide +kernel
theorem d_M_readTold_22 : decode m_M_readTold.2.1 22 = .ok (.ifCond .lt 41, 3) := by decide +kernel
theorem d_M_readTold_25 : decode m_M_readTold.2.1 25 = .ok (.iload_n 2, 1) := by decide +kernel
theorem d_M_readTold_26 : decode m_M_readTold.2.1 26 = .ok (.iconst 3, 1) := by decide +kernel
theorem d_M_readTold_27 : decode m_M_readTold.2.1 27 = .ok (.if_icmp .ge 18, 3) := by decide +kernel
theorem d_M_readTold_30 : decode m_M_readTold.2.1 30 = .ok (.bipush 36, 2) := by decide +kernel
theorem d_M_readTold_32 : decode m_M_readTold.2.1 32 = .ok (.iload_n 1, 1) := by decide +kernel
theorem d_M_readTold_33 : decode m_M_readTold.2.1 33 = .ok (.imul, 1) := by decide +kernel
theorem d_M_readTold_34 : decode m_M_readTold.2.1 34 = .ok (.aload_n 0, 1) := by decide +kernel
theorem d_M_readTold_35 : decode m_M_readTold.2.1 35 = .ok (.invokevirtual 174, 3) := by decide +kernel
theorem d_M_readTold_38 : decode m_M_readTold.2.1 38 = .ok (.invokestatic 187, 3) := by decide +kernel
theorem d_M_readTold_41 : decode m_M_readTold.2.1 41 = .ok (.iadd, 1) := by decide +kernel
theorem d_M_readTold_42 : decode m_M_readTold.2.1 42 = .ok (.goto 4, 3) := by decide +kernel
theorem d_M_readTold_45 : decode m_M_readTold.2.1 45 = .ok (.iload_n 1, 1) := by decide +kernel
theorem d_M_readTold_46 : decode m_M_readTold.2.1 46 = .ok (.istore_n 1, 1) := by decide +kernel
theorem d_M_readTold_47 : decode m_M_readTold.2.1 47 = .ok (.iinc 2 1, 3) := by decide +kernel
theorem d_M_readTold_50 : decode m_M_readTold.2.1 50 = .ok (.aload_n 0, 1) := by decide +kernel
theorem d_M_readTold_51 : decode m_M_readTold.2.1 51 = .ok (.dup, 1) := by decide +kernel
theorem d_M_readTold_52 : decode m_M_readTold.2.1 52 = .ok (.getfield 168, 3) := by decide +kernel
theorem d_M_readTold_55 : decode m_M_readTold.2.1 55 = .ok (.iconst 1, 1) := by decide +kernel
theorem d_M_readTold_56 : decode m_M_readTold.2.1 56 = .ok (.iadd, 1) := by decide +kernel
theorem d_M_readTold_57 : decode m_M_readTold.2.1 57 = .ok (.putfield 168, 3) := by decide +kernel
theorem d_M_readTold_60 : decode m_M_readTold.2.1 60 = .ok (.goto (-45), 3) := by decide +kernel
theorem d_M_readTold_63 : decode m_M_readTold.2.1 63 = .ok (.aload_n 0, 1) := by decide +kernel
theorem d_M_readTold_64 : decode m_M_readTold.2.1 64 = .ok (.bipush 95, 2) := by decide +kernel
theorem d_M_readTold_66 : decode m_M_readTold.2.1 66 = .ok (.invokevirtual 184, 3) := by decide +kernel
theorem d_M_readTold_69 : decode m_M_readTold.2.1 69 = .ok (.iload_n 2, 1) := by decide +kernel
theorem d_M_readTold_70 : decode m_M_readTold.2.1 70 = .ok (.ifCond .ne 7, 3) := by decide +kernel
theorem d_M_readTold_73 : decode m_M_readTold.2.1 73 = .ok (.iconst 0, 1) := by decide +kernel
theorem d_M_readTold_74 : decode m_M_readTold.2.1 74 = .ok (.goto 6, 3) := by decide +kernel
theorem d_M_readTold_77 : decode m_M_readTold.2.1 77 = .ok (.iload_n 1, 1) := by decide +kernel
theorem d_M_readTold_78 : decode m_M_readTold.2.1 78 = .ok (.iconst 1, 1) := by decide +kernel
theorem d_M_readTold_79 : decode m_M_readTold.2.1 79 = .ok (.iadd, 1) := by decide +kernel
theorem d_M_readTold_80 : decode m_M_readTold.2.1 80 = .ok (.istore 4, 2) := by decide +kernel
theorem d_M_readTold_82 : decode m_M_readTold.2.1 82 = .ok (.aload_n 0, 1) := by decide +kernel
theorem d_M_readTold_83 : decode m_M_readTold.2.1 83 = .ok (.aload_n 0, 1) := by decide +kernel
theorem d_M_readTold_84 : decode m_M_readTold.2.1 84 = .ok (.getfield 171, 3) := by decide +kernel
theorem d_M_readTold_87 : decode m_M_readTold.2.1 87 = .ok (.ifCond .ne 28, 3) := by decide +kernel
theorem d_M_readTold_90 : decode m_M_readTold.2.1 90 = .ok (.iload_n 2, 1) := by decide +kernel
theorem d_M_readTold_91 : decode m_M_readTold.2.1 91 = .ok (.iconst 1, 1) := by decide +kernel
theorem d_M_readTold_92 : decode m_M_readTold.2.1 92 = .ok (.if_icmp .le 9, 3) := by decide +kernel
theorem d_M_readTold_95 : decode m_M_readTold.2.1 95 = .ok (.iload_n 3, 1) := by decide +kernel
theorem d_M_readTold_96 : decode m_M_readTold.2.1 96 = .ok (.bipush 48, 2) := by decide +kernel
theorem d_M_readTold_98 : decode m_M_readTold.2.1 98 = .ok (.if_icmp .eq 17, 3) := by decide +kernel
theorem d_M_readTold_101 : decode m_M_readTold.2.1 101 = .ok (.iload_n 2, 1) := by decide +kernel
theorem d_M_readTold_102 : decode m_M_readTold.2.1 102 = .ok (.iconst 3, 1) := by decide +kernel
theorem d_M_readTold_103 : decode m_M_readTold.2.1 103 = .ok (.if_icmp .gt 12, 3) := by decide +kernel
theorem d_M_readTold_106 : decode m_M_readTold.2.1 106 = .ok (.iload 4, 2) := by decide +kernel
theorem d_M_readTold_108 : decode m_M_readTold.2.1 108 = .ok (.aload_n 0, 1) := by decide +kernel
theorem d_M_readTold_109 : decode m_M_readTold.2.1 109 = .ok (.getfield 110, 3) := by decide +kernel
theorem d_M_readTold_112 : decode m_M_readTold.2.1 112 = .ok (.if_icmp .lt 7, 3) := by decide +kernel
theorem d_M_readTold_115 : decode m_M_readTold.2.1 115 = .ok (.iconst 1, 1) := by decide +kernel
theorem d_M_readTold_116 : decode m_M_readTold.2.1 116 = .ok (.goto 4, 3) := by decide +kernel
theorem d_M_readTold_119 : decode m_M_readTold.2.1 119 = .ok (.iconst 0, 1) := by decide +kernel
theorem d_M_readTold_120 : decode m_M_readTold.2.1 120 = .ok (.putfield 171, 3) := by decide +kernel
theorem d_M_readTold_123 : decode m_M_readTold.2.1 123 = .ok (.aload_n 0, 1) := by decide +kernel
theorem d_M_readTold_124 : decode m_M_readTold.2.1 124 = .ok (.getfield 171, 3) := by decide +kernel
theorem d_M_readTold_127 : decode m_M_readTold.2.1 127 = .ok (.ifCond .eq 7, 3) := by decide +kernel
theorem d_M_readTold_130 : decode m_M_readTold.2.1 130 = .ok (.iconst 0, 1) := by decide +kernel
theorem d_M_readTold_131 : decode m_M_readTold.2.1 131 = .ok (.goto 10, 3) := by decide +kernel
theorem d_M_readTold_134 : decode m_M_readTold.2.1 134 = .ok (.aload_n 0, 1) := by decide +kernel
theorem d_M_readTold_135 : decode m_M_readTold.2.1 135 = .ok (.getfield 37, 3) := by decide +kernel
theorem d_M_readTold_138 : decode m_M_readTold.2.1 138 = .ok (.iload 4, 2) := by decide +kernel
theorem d_M_readTold_140 : decode m_M_readTold.2.1 140 = .ok (.iaload, 1) := by decide +kernel
theorem d_M_readTold_141 : decode m_M_readTold.2.1 141 = .ok (.ireturn, 1) := by decide +kernel
theorem d_M_value36_0 : decode m_M_value36.2.1 0 = .ok (.iload_n 0, 1) := by decide +kernel
theorem d_M_value36_1 : decode m_M_value36.2.1 1 = .ok (.invokestatic 178, 3) := by decide +kernel
theorem d_M_value36_4 : decode m_M_value36.2.1 4 = .ok (.ifCond .eq 10, 3) := by decide +kernel
theorem d_M_value36_7 : decode m_M_value36.2.1 7 = .ok (.iload_n 0, 1) := by decide +kernel
theorem d_M_value36_8 : decode m_M_value36.2.1 8 = .ok (.bipush 48, 2) := by decide +kernel
theorem d_M_value36_10 : decode m_M_value36.2.1 10 = .ok (.isub, 1) := by decide +kernel
theorem d_M_value36_11 : decode m_M_value36.2.1 11 = .ok (.goto 26, 3) := by decide +kernel
theorem d_M_value36_14 : decode m_M_value36.2.1 14 = .ok (.iload_n 0, 1) := by decide +kernel
theorem d_M_value36_15 : decode m_M_value36.2.1 15 = .ok (.bipush 65, 2) := by decide +kernel
theorem d_M_value36_17 : decode m_M_value36.2.1 17 = .ok (.if_icmp .lt 19, 3) := by decide +kernel
theorem d_M_value36_20 : decode m_M_value36.2.1 20 = .ok (.iload_n 0, 1) := by decide +kernel
theorem d_M_value36_21 : decode m_M_value36.2.1 21 = .ok (.bipush 90, 2) := by decide +kernel
theorem d_M_value36_23 : decode m_M_value36.2.1 23 = .ok (.if_icmp .gt 13, 3) := by decide +kernel
theorem d_M_value36_26 : decode m_M_value36.2.1 26 = .ok (.iload_n 0, 1) := by decide +kernel
theorem d_M_value36_27 : decode m_M_value36.2.1 27 = .ok (.bipush 65, 2) := by decide +kernel
theorem d_M_value36_29 : decode m_M_value36.2.1 29 = .ok (.isub, 1) := by decide +kernel
theorem d_M_value36_30 : decode m_M_value36.2.1 30 = .ok (.bipush 10, 2) := by decide +kernel
theorem d_M_value36_32 : decode m_M_value36.2.1 32 = .ok (.iadd, 1) := by decide +kernel
theorem d_M_value36_33 : decode m_M_value36.2.1 33 = .ok (.goto 4, 3) := by decide +kernel
theorem d_M_value36_36 : decode m_M_value36.2.1 36 = .ok (.iconst (-1), 1) := by decide +kernel
theorem d_M_value36_37 : decode m_M_value36.2.1 37 = .ok (.ireturn, 1) := by decide +kernel
theorem d_M_isDigit_0 : decode m_M_isDigit.2.1 0 = .ok (.iload_n 0, 1) := by decide +kernel
theorem d_M_isDigit_1 : decode m_M_isDigit.2.1 1 = .ok (.bipush 48, 2) := by decide +kernel
theorem d_M_isDigit_3 : decode m_M_isDigit.2.1 3 = .ok (.if_icmp .lt 13, 3) := by decide +kernel
theorem d_M_isDigit_6 : decode m_M_isDigit.2.1 6 = .ok (.iload_n 0, 1) := by decide +kernel
theorem d_M_isDigit_7 : decode m_M_isDigit.2.1 7 = .ok (.bipush 57, 2) := by decide +kernel
theorem d_M_isDigit_9 : decode m_M_isDigit.2.1 9 = .ok (.if_icmp .gt 7, 3) := by decide +kernel
theorem d_M_isDigit_12 : decode m_M_isDigit.2.1 12 = .ok (.iconst 1, 1) := by decide +kernel
theorem d_M_isDigit_13 : decode m_M_isDigit.2.1 13 = .ok (.goto 4, 3) := by decide +kernel
theorem d_M_isDigit_16 : decode m_M_isDigit.2.1 16 = .ok (.iconst 0, 1) := by decide +kernel
theorem d_M_isDigit_17 : decode m_M_isDigit.2.1 17 = .ok (.ireturn, 1) := by decide +kernel
theorem d_M_readId_0 : decode m_M_readId.2.1 0 = .ok (.aload_n 0, 1) := by decide +kernel
theorem d_M_readId_1 : decode m_M_readId.2.1 1 = .ok (.iconst 1, 1) := by decide +kernel
theorem d_M_readId_2 : decode m_M_readId.2.1 2 = .ok (.invokevirtual 181, 3) := by decide +kernel
theorem d_M_readId_5 : decode m_M_readId.2.1 5 = .ok (.istore_n 1, 1) := by decide +kernel
theorem d_M_readId_6 : decode m_M_readId.2.1 6 = .ok (.aload_n 0, 1) := by decide +kernel
theorem d_M_readId_7 : decode m_M_readId.2.1 7 = .ok (.aload_n 0, 1) := by decide +kernel
theorem d_M_readId_8 : decode m_M_readId.2.1 8 = .ok (.getfield 171, 3) := by decide +kernel
theorem d_M_readId_11 : decode m_M_readId.2.1 11 = .ok (.ifCond .ne 13, 3) := by decide +kernel
theorem d_M_readId_14 : decode m_M_readId.2.1 14 = .ok (.iload_n 1, 1) := by decide +kernel
theorem d_M_readId_15 : decode m_M_readId.2.1 15 = .ok (.iconst 1, 1) := by decide +kernel
theorem d_M_readId_16 : decode m_M_readId.2.1 16 = .ok (.if_icmp .lt 8, 3) := by decide +kernel
theorem d_M_readId_19 : decode m_M_readId.2.1 19 = .ok (.iload_n 1, 1) := by decide +kernel
theorem d_M_readId_20 : decode m_M_readId.2.1 20 = .ok (.iconst 3, 1) := by decide +kernel
theorem d_M_readId_21 : decode m_M_readId.2.1 21 = .ok (.if_icmp .le 7, 3) := by decide +kernel
theorem d_M_readId_24 : decode m_M_readId.2.1 24 = .ok (.iconst 1, 1) := by decide +kernel
theorem d_M_readId_25 : decode m_M_readId.2.1 25 = .ok (.goto 4, 3) := by decide +kernel
theorem d_M_readId_28 : decode m_M_readId.2.1 28 = .ok (.iconst 0, 1) := by decide +kernel
theorem d_M_readId_29 : decode m_M_readId.2.1 29 = .ok (.putfield 171, 3) := by decide +kernel
theorem d_M_readId_32 : decode m_M_readId.2.1 32 = .ok (.iconst 0, 1) := by decide +kernel
theorem d_M_readId_33 : decode m_M_readId.2.1 33 = .ok (.istore_n 2, 1) := by decide +kernel
theorem d_M_readId_34 : decode m_M_readId.2.1 34 = .ok (.iconst 0, 1) := by decide +kernel
theorem d_M_readId_35 : decode m_M_readId.2.1 35 = .ok (.istore_n 3, 1) := by decide +kernel
theorem d_M_readId_36 : decode m_M_readId.2.1 36 = .ok (.iload_n 3, 1) := by decide +kernel
theorem d_M_readId_37 : decode m_M_readId.2.1 37 = .ok (.iload_n 1, 1) := by decide +kernel
theorem d_M_readId_38 : decode m_M_readId.2.1 38 = .ok (.if_icmp .ge 64, 3) := by decide +kernel
theorem d_M_readId_41 : decode m_M_readId.2.1 41 = .ok (.aload_n 0, 1) := by decide +kernel
theorem d_M_readId_42 : decode m_M_readId.2.1 42 = .ok (.getfield 171, 3) := by decide +kernel
theorem d_M_readId_45 : decode m_M_readId.2.1 45 = .ok (.ifCond .ne 57, 3) := by decide +kernel
theorem d_M_readId_48 : decode m_M_readId.2.1 48 = .ok (.aload_n 0, 1) := by decide +kernel
theorem d_M_readId_49 : decode m_M_readId.2.1 49 = .ok (.invokevirtual 174, 3) := by decide +kernel
theorem d_M_readId_52 : decode m_M_readId.2.1 52 = .ok (.istore 4, 2) := by decide +kernel
theorem d_M_readId_54 : decode m_M_readId.2.1 54 = .ok (.aload_n 0, 1) := by decide +kernel
theorem d_M_readId_55 : decode m_M_readId.2.1 55 = .ok (.iload 4, 2) := by decide +kernel
theorem d_M_readId_57 : decode m_M_readId.2.1 57 = .ok (.bipush 97, 2) := by decide +kernel
theorem d_M_readId_59 : decode m_M_readId.2.1 59 = .ok (.if_icmp .lt 10, 3) := by decide +kernel
theorem d_M_readId_62 : decode m_M_readId.2.1 62 = .ok (.iload 4, 2) := by decide +kernel
theorem d_M_readId_64 : decode m_M_readId.2.1 64 = .ok (.bipush 122, 2) := by decide +kernel
theorem d_M_readId_66 : decode m_M_readId.2.1 66 = .ok (.if_icmp .le 7, 3) := by decide +kernel
theorem d_M_readId_69 : decode m_M_readId.2.1 69 = .ok (.iconst 1, 1) := by decide +kernel
theorem d_M_readId_70 : decode m_M_readId.2.1 70 = .ok (.goto 4, 3) := by decide +kernel
theorem d_M_readId_73 : decode m_M_readId.2.1 73 = .ok (.iconst 0, 1) := by decide +kernel
theorem d_M_readId_74 : decode m_M_readId.2.1 74 = .ok (.putfield 171, 3) := by decide +kernel
theorem d_M_readId_77 : decode m_M_readId.2.1 77 = .ok (.sipush 256, 3) := by decide +kernel
theorem d_M_readId_80 : decode m_M_readId.2.1 80 = .ok (.iload_n 2, 1) := by decide +kernel
theorem d_M_readId_81 : decode m_M_readId.2.1 81 = .ok (.imul, 1) := by decide +kernel
theorem d_M_readId_82 : decode m_M_readId.2.1 82 = .ok (.iload 4, 2) := by decide +kernel
theorem d_M_readId_84 : decode m_M_readId.2.1 84 = .ok (.iadd, 1) := by decide +kernel
theorem d_M_readId_85 : decode m_M_readId.2.1 85 = .ok (.istore_n 2, 1) := by decide +kernel
theorem d_M_readId_86 : decode m_M_readId.2.1 86 = .ok (.aload_n 0, 1) := by decide +kernel
theorem d_M_readId_87 : decode m_M_readId.2.1 87 = .ok (.dup, 1) := by decide +kernel
theorem d_M_readId_88 : decode m_M_readId.2.1 88 = .ok (.getfield 168, 3) := by decide +kernel
theorem d_M_readId_91 : decode m_M_readId.2.1 91 = .ok (.iconst 1, 1) := by decide +kernel
theorem d_M_readId_92 : decode m_M_readId.2.1 92 = .ok (.iadd, 1) := by decide +kernel
theorem d_M_readId_93 : decode m_M_readId.2.1 93 = .ok (.putfield 168, 3) := by decide +kernel
theorem d_M_readId_96 : decode m_M_readId.2.1 96 = .ok (.iinc 3 1, 3) := by decide +kernel
theorem d_M_readId_99 : decode m_M_readId.2.1 99 = .ok (.goto (-63), 3) := by decide +kernel
theorem d_M_readId_102 : decode m_M_readId.2.1 102 = .ok (.iload_n 2, 1) := by decide +kernel
theorem d_M_readId_103 : decode m_M_readId.2.1 103 = .ok (.ireturn, 1) := by decide +kernel
theorem d_M_readNumber_0 : decode m_M_readNumber.2.1 0 = .ok (.iconst 0, 1) := by decide +kernel
theorem d_M_readNumber_1 : decode m_M_readNumber.2.1 1 = .ok (.istore_n 2, 1) := by decide +kernel
theorem d_M_readNumber_2 : decode m_M_readNumber.2.1 2 = .ok (.iconst 0, 1) := by decide +kernel
theorem d_M_readNumber_3 : decode m_M_readNumber.2.1 3 = .ok (.istore_n 3, 1) := by decide +kernel
theorem d_M_readNumber_4 : decode m_M_readNumber.2.1 4 = .ok (.aload_n 0, 1) := by decide +kernel
theorem d_M_readNumber_5 : decode m_M_readNumber.2.1 5 = .ok (.invokevirtual 174, 3) := by decide +kernel
theorem d_M_readNumber_8 : decode m_M_readNumber.2.1 8 = .ok (.istore 4, 2) := by decide +kernel
theorem d_M_readNumber_10 : decode m_M_readNumber.2.1 10 = .ok (.aload_n 0, 1) := by decide +kernel
theorem d_M_readNumber_11 : decode m_M_readNumber.2.1 11 = .ok (.invokevirtual 174, 3) := by decide +kernel
theorem d_M_readNumber_14 : decode m_M_readNumber.2.1 14 = .ok (.invokestatic 178, 3) := by decide +kernel
theorem d_M_readNumber_17 : decode m_M_readNumber.2.1 17 = .ok (.ifCond .eq 41, 3) := by decide +kernel
theorem d_M_readNumber_20 : decode m_M_readNumber.2.1 20 = .ok (.iload_n 3, 1) := by decide +kernel
theorem d_M_readNumber_21 : decode m_M_readNumber.2.1 21 = .ok (.iload_n 1, 1) := by decide +kernel
theorem d_M_readNumber_22 : decode m_M_readNumber.2.1 22 = .ok (.if_icmp .ge 18, 3) := by decide +kernel
theorem d_M_readNumber_25 : decode m_M_readNumber.2.1 25 = .ok (.bipush 10, 2) := by decide +kernel
theorem d_M_readNumber_27 : decode m_M_readNumber.2.1 27 = .ok (.iload_n 2, 1) := by decide +kernel
theorem d_M_readNumber_28 : decode m_M_readNumber.2.1 28 = .ok (.imul, 1) := by decide +kernel
theorem d_M_readNumber_29 : decode m_M_readNumber.2.1 29 = .ok (.aload_n 0, 1) := by decide +kernel
theorem d_M_readNumber_30 : decode m_M_readNumber.2.1 30 = .ok (.invokevirtual 174, 3) := by decide +kernel
theorem d_M_readNumber_33 : decode m_M_readNumber.2.1 33 = .ok (.iadd, 1) := by decide +kernel
theorem d_M_readNumber_34 : decode m_M_readNumber.2.1 34 = .ok (.bipush 48, 2) := by decide +kernel
theorem d_M_readNumber_36 : decode m_M_readNumber.2.1 36 = .ok (.isub, 1) := by decide +kernel
theorem d_M_readNumber_37 : decode m_M_readNumber.2.1 37 = .ok (.goto 4, 3) := by decide +kernel
theorem d_M_readNumber_40 : decode m_M_readNumber.2.1 40 = .ok (.iload_n 2, 1) := by decide +kernel
theorem d_M_readNumber_41 : decode m_M_readNumber.2.1 41 = .ok (.istore_n 2, 1) := by decide +kernel
theorem d_M_readNumber_42 : decode m_M_readNumber.2.1 42 = .ok (.iinc 3 1, 3) := by decide +kernel
theorem d_M_readNumber_45 : decode m_M_readNumber.2.1 45 = .ok (.aload_n 0, 1) := by decide +kernel
theorem d_M_readNumber_46 : decode m_M_readNumber.2.1 46 = .ok (.dup, 1) := by decide +kernel
theorem d_M_readNumber_47 : decode m_M_readNumber.2.1 47 = .ok (.getfield 168, 3) := by decide +kernel
theorem d_M_readNumber_50 : decode m_M_readNumber.2.1 50 = .ok (.iconst 1, 1) := by decide +kernel
theorem d_M_readNumber_51 : decode m_M_readNumber.2.1 51 = .ok (.iadd, 1) := by decide +kernel
theorem d_M_readNumber_52 : decode m_M_readNumber.2.1 52 = .ok (.putfield 168, 3) := by decide +kernel
theorem d_M_readNumber_55 : decode m_M_readNumber.2.1 55 = .ok (.goto (-45), 3) := by decide +kernel
theorem d_M_readNumber_58 : decode m_M_readNumber.2.1 58 = .ok (.iload_n 3, 1) := by decide +kernel
theorem d_M_readNumber_59 : decode m_M_readNumber.2.1 59 = .ok (.ifCond .le 24, 3) := by decide +kernel
theorem d_M_readNumber_62 : decode m_M_readNumber.2.1 62 = .ok (.iload_n 3, 1) := by decide +kernel
theorem d_M_readNumber_63 : decode m_M_readNumber.2.1 63 = .ok (.iload_n 1, 1) := by decide +kernel
theorem d_M_readNumber_64 : decode m_M_readNumber.2.1 64 = .ok (.if_icmp .gt 19, 3) := by decide +kernel
theorem d_M_readNumber_67 : decode m_M_readNumber.2.1 67 = .ok (.iload_n 3, 1) := by decide +kernel
theorem d_M_readNumber_68 : decode m_M_readNumber.2.1 68 = .ok (.iconst 1, 1) := by decide +kernel
theorem d_M_readNumber_69 : decode m_M_readNumber.2.1 69 = .ok (.if_icmp .eq 10, 3) := by decide +kernel
theorem d_M_readNumber_72 : decode m_M_readNumber.2.1 72 = .ok (.iload 4, 2) := by decide +kernel
theorem d_M_readNumber_74 : decode m_M_readNumber.2.1 74 = .ok (.bipush 48, 2) := by decide +kernel
theorem d_M_readNumber_76 : decode m_M_readNumber.2.1 76 = .ok (.if_icmp .eq 7, 3) := by decide +kernel
theorem d_M_readNumber_79 : decode m_M_readNumber.2.1 79 = .ok (.iconst 1, 1) := by decide +kernel
theorem d_M_readNumber_80 : decode m_M_readNumber.2.1 80 = .ok (.goto 4, 3) := by decide +kernel
theorem d_M_readNumber_83 : decode m_M_readNumber.2.1 83 = .ok (.iconst 0, 1) := by decide +kernel
theorem d_M_readNumber_84 : decode m_M_readNumber.2.1 84 = .ok (.istore 5, 2) := by decide +kernel
theorem d_M_readNumber_86 : decode m_M_readNumber.2.1 86 = .ok (.aload_n 0, 1) := by decide +kernel
theorem d_M_readNumber_87 : decode m_M_readNumber.2.1 87 = .ok (.aload_n 0, 1) := by decide +kernel
theorem d_M_readNumber_88 : decode m_M_readNumber.2.1 88 = .ok (.getfield 171, 3) := by decide +kernel
theorem d_M_readNumber_91 : decode m_M_readNumber.2.1 91 = .ok (.ifCond .ne 8, 3) := by decide +kernel
theorem d_M_readNumber_94 : decode m_M_readNumber.2.1 94 = .ok (.iload 5, 2) := by decide +kernel
theorem d_M_readNumber_96 : decode m_M_readNumber.2.1 96 = .ok (.ifCond .ne 7, 3) := by decide +kernel
theorem d_M_readNumber_99 : decode m_M_readNumber.2.1 99 = .ok (.iconst 1, 1) := by decide +kernel
theorem d_M_readNumber_100 : decode m_M_readNumber.2.1 100 = .ok (.goto 4, 3) := by decide +kernel
theorem d_M_readNumber_103 : decode m_M_readNumber.2.1 103 = .ok (.iconst 0, 1) := by decide +kernel
theorem d_M_readNumber_104 : decode m_M_readNumber.2.1 104 = .ok (.putfield 171, 3) := by decide +kernel
theorem d_M_readNumber_107 : decode m_M_readNumber.2.1 107 = .ok (.iload 5, 2) := by decide +kernel
theorem d_M_readNumber_109 : decode m_M_readNumber.2.1 109 = .ok (.ifCond .eq 7, 3) := by decide +kernel
theorem d_M_readNumber_112 : decode m_M_readNumber.2.1 112 = .ok (.iload_n 2, 1) := by decide +kernel
theorem d_M_readNumber_113 : decode m_M_readNumber.2.1 113 = .ok (.goto 4, 3) := by decide +kernel
theorem d_M_readNumber_116 : decode m_M_readNumber.2.1 116 = .ok (.iconst (-1), 1) := by decide +kernel
theorem d_M_readNumber_117 : decode m_M_readNumber.2.1 117 = .ok (.ireturn, 1) := by decide +kernel
theorem d_M_makeName_0 : decode m_M_makeName.2.1 0 = .ok (.aload_n 0, 1) := by decide +kernel
theorem d_M_makeName_1 : decode m_M_makeName.2.1 1 = .ok (.iconst 1, 1) := by decide +kernel
theorem d_M_makeName_2 : decode m_M_makeName.2.1 2 = .ok (.iload_n 1, 1) := by decide +kernel
theorem d_M_makeName_3 : decode m_M_makeName.2.1 3 = .ok (.iconst (-1), 1) := by decide +kernel
theorem d_M_makeName_4 : decode m_M_makeName.2.1 4 = .ok (.iconst (-1), 1) := by decide +kernel
theorem d_M_makeName_5 : decode m_M_makeName.2.1 5 = .ok (.iconst (-1), 1) := by decide +kernel
theorem d_M_makeName_6 : decode m_M_makeName.2.1 6 = .ok (.iconst (-1), 1) := by decide +kernel
theorem d_M_makeName_7 : decode m_M_makeName.2.1 7 = .ok (.iconst (-1), 1) := by decide +kernel
theorem d_M_makeName_8 : decode m_M_makeName.2.1 8 = .ok (.invokevirtual 190, 3) := by decide +kernel
theorem d_M_makeName_11 : decode m_M_makeName.2.1 11 = .ok (.ireturn, 1) := by decide +kernel
theorem d_M_make_0 : decode m_M_make.2.1 0 = .ok (.aload_n 0, 1) := by decide +kernel
theorem d_M_make_1 : decode m_M_make.2.1 1 = .ok (.getfield 171, 3) := by decide +kernel
theorem d_M_make_4 : decode m_M_make.2.1 4 = .ok (.ifCond .eq 5, 3) := by decide +kernel
theorem d_M_make_7 : decode m_M_make.2.1 7 = .ok (.iconst 0, 1) := by decide +kernel
theorem d_M_make_8 : decode m_M_make.2.1 8 = .ok (.ireturn, 1) := by decide +kernel
theorem d_M_make_9 : decode m_M_make.2.1 9 = .ok (.aload_n 0, 1) := by decide +kernel
theorem d_M_make_10 : decode m_M_make.2.1 10 = .ok (.iload_n 1, 1) := by decide +kernel
theorem d_M_make_11 : decode m_M_make.2.1 11 = .ok (.iload_n 2, 1) := by decide +kernel
theorem d_M_make_12 : decode m_M_make.2.1 12 = .ok (.iload_n 3, 1) := by decide +kernel
theorem d_M_make_13 : decode m_M_make.2.1 13 = .ok (.iload 4, 2) := by decide +kernel
theorem d_M_make_15 : decode m_M_make.2.1 15 = .ok (.iload 5, 2) := by decide +kernel
theorem d_M_make_17 : decode m_M_make.2.1 17 = .ok (.iload 6, 2) := by decide +kernel
theorem d_M_make_19 : decode m_M_make.2.1 19 = .ok (.iload 7, 2) := by decide +kernel
theorem d_M_make_21 : decode m_M_make.2.1 21 = .ok (.invokevirtual 73, 3) := by decide +kernel
theorem d_M_make_24 : decode m_M_make.2.1 24 = .ok (.istore 8, 2) := by decide +kernel
theorem d_M_make_26 : decode m_M_make.2.1 26 = .ok (.aload_n 0, 1) := by decide +kernel
theorem d_M_make_27 : decode m_M_make.2.1 27 = .ok (.aload_n 0, 1) := by decide +kernel
theorem d_M_make_28 : decode m_M_make.2.1 28 = .ok (.getfield 25, 3) := by decide +kernel
theorem d_M_make_31 : decode m_M_make.2.1 31 = .ok (.iload 8, 2) := by decide +kernel
theorem d_M_make_33 : decode m_M_make.2.1 33 = .ok (.iaload, 1) := by decide +kernel
theorem d_M_make_34 : decode m_M_make.2.1 34 = .ok (.bipush 16, 2) := by decide +kernel
theorem d_M_make_36 : decode m_M_make.2.1 36 = .ok (.if_icmp .le 7, 3) := by decide +kernel
theorem d_M_make_39 : decode m_M_make.2.1 39 = .ok (.iconst 1, 1) := by decide +kernel
theorem d_M_make_40 : decode m_M_make.2.1 40 = .ok (.goto 4, 3) := by decide +kernel
theorem d_M_make_43 : decode m_M_make.2.1 43 = .ok (.iconst 0, 1) := by decide +kernel
theorem d_M_make_44 : decode m_M_make.2.1 44 = .ok (.putfield 171, 3) := by decide +kernel
theorem d_M_make_47 : decode m_M_make.2.1 47 = .ok (.iload 8, 2) := by decide +kernel
theorem d_M_make_49 : decode m_M_make.2.1 49 = .ok (.ireturn, 1) := by decide +kernel
