/-! decode rows, by program (wip/whole/gen03.py) -/
theorem d_M_fill_0 : decode m_M_fill.2.1 0 = .ok (.aload_n 0, 1) := by decide +kernel
theorem d_M_fill_1 : decode m_M_fill.2.1 1 = .ok (.iload_n 2, 1) := by decide +kernel
theorem d_M_fill_2 : decode m_M_fill.2.1 2 = .ok (.invokevirtual 86, 3) := by decide +kernel
theorem d_M_fill_5 : decode m_M_fill.2.1 5 = .ok (.ifCond .eq 44, 3) := by decide +kernel
theorem d_M_fill_8 : decode m_M_fill.2.1 8 = .ok (.iload_n 3, 1) := by decide +kernel
theorem d_M_fill_9 : decode m_M_fill.2.1 9 = .ok (.iconst (-1), 1) := by decide +kernel
theorem d_M_fill_10 : decode m_M_fill.2.1 10 = .ok (.if_icmp .ne 12, 3) := by decide +kernel
theorem d_M_fill_13 : decode m_M_fill.2.1 13 = .ok (.iload 4, 2) := by decide +kernel
theorem d_M_fill_15 : decode m_M_fill.2.1 15 = .ok (.iconst (-1), 1) := by decide +kernel
theorem d_M_fill_16 : decode m_M_fill.2.1 16 = .ok (.if_icmp .ne 33, 3) := by decide +kernel
theorem d_M_fill_19 : decode m_M_fill.2.1 19 = .ok (.goto 26, 3) := by decide +kernel
theorem d_M_fill_22 : decode m_M_fill.2.1 22 = .ok (.aload_n 0, 1) := by decide +kernel
theorem d_M_fill_23 : decode m_M_fill.2.1 23 = .ok (.iload_n 3, 1) := by decide +kernel
theorem d_M_fill_24 : decode m_M_fill.2.1 24 = .ok (.invokevirtual 86, 3) := by decide +kernel
theorem d_M_fill_27 : decode m_M_fill.2.1 27 = .ok (.ifCond .eq 22, 3) := by decide +kernel
theorem d_M_fill_30 : decode m_M_fill.2.1 30 = .ok (.iload 4, 2) := by decide +kernel
theorem d_M_fill_32 : decode m_M_fill.2.1 32 = .ok (.iconst (-1), 1) := by decide +kernel
theorem d_M_fill_33 : decode m_M_fill.2.1 33 = .ok (.if_icmp .eq 12, 3) := by decide +kernel
theorem d_M_fill_36 : decode m_M_fill.2.1 36 = .ok (.aload_n 0, 1) := by decide +kernel
theorem d_M_fill_37 : decode m_M_fill.2.1 37 = .ok (.iload 4, 2) := by decide +kernel
theorem d_M_fill_39 : decode m_M_fill.2.1 39 = .ok (.invokevirtual 86, 3) := by decide +kernel
theorem d_M_fill_42 : decode m_M_fill.2.1 42 = .ok (.ifCond .eq 7, 3) := by decide +kernel
theorem d_M_fill_45 : decode m_M_fill.2.1 45 = .ok (.iconst 1, 1) := by decide +kernel
theorem d_M_fill_46 : decode m_M_fill.2.1 46 = .ok (.goto 4, 3) := by decide +kernel
theorem d_M_fill_49 : decode m_M_fill.2.1 49 = .ok (.iconst 0, 1) := by decide +kernel
theorem d_M_fill_50 : decode m_M_fill.2.1 50 = .ok (.istore 5, 2) := by decide +kernel
theorem d_M_fill_52 : decode m_M_fill.2.1 52 = .ok (.aload_n 0, 1) := by decide +kernel
theorem d_M_fill_53 : decode m_M_fill.2.1 53 = .ok (.iload 5, 2) := by decide +kernel
theorem d_M_fill_55 : decode m_M_fill.2.1 55 = .ok (.ifCond .eq 15, 3) := by decide +kernel
theorem d_M_fill_58 : decode m_M_fill.2.1 58 = .ok (.aload_n 0, 1) := by decide +kernel
theorem d_M_fill_59 : decode m_M_fill.2.1 59 = .ok (.iload_n 1, 1) := by decide +kernel
theorem d_M_fill_60 : decode m_M_fill.2.1 60 = .ok (.invokevirtual 83, 3) := by decide +kernel
theorem d_M_fill_63 : decode m_M_fill.2.1 63 = .ok (.ifCond .eq 7, 3) := by decide +kernel
theorem d_M_fill_66 : decode m_M_fill.2.1 66 = .ok (.iconst 0, 1) := by decide +kernel
theorem d_M_fill_67 : decode m_M_fill.2.1 67 = .ok (.goto 4, 3) := by decide +kernel
theorem d_M_fill_70 : decode m_M_fill.2.1 70 = .ok (.iconst 1, 1) := by decide +kernel
theorem d_M_fill_71 : decode m_M_fill.2.1 71 = .ok (.putfield 52, 3) := by decide +kernel
theorem d_M_fill_74 : decode m_M_fill.2.1 74 = .ok (.aload_n 0, 1) := by decide +kernel
theorem d_M_fill_75 : decode m_M_fill.2.1 75 = .ok (.getfield 52, 3) := by decide +kernel
theorem d_M_fill_78 : decode m_M_fill.2.1 78 = .ok (.ifCond .le 5, 3) := by decide +kernel
theorem d_M_fill_81 : decode m_M_fill.2.1 81 = .ok (.iconst 0, 1) := by decide +kernel
theorem d_M_fill_82 : decode m_M_fill.2.1 82 = .ok (.ireturn, 1) := by decide +kernel
theorem d_M_fill_83 : decode m_M_fill.2.1 83 = .ok (.aload_n 0, 1) := by decide +kernel
theorem d_M_fill_84 : decode m_M_fill.2.1 84 = .ok (.aload_n 0, 1) := by decide +kernel
theorem d_M_fill_85 : decode m_M_fill.2.1 85 = .ok (.getfield 7, 3) := by decide +kernel
theorem d_M_fill_88 : decode m_M_fill.2.1 88 = .ok (.iload_n 1, 1) := by decide +kernel
theorem d_M_fill_89 : decode m_M_fill.2.1 89 = .ok (.iaload, 1) := by decide +kernel
theorem d_M_fill_90 : decode m_M_fill.2.1 90 = .ok (.iconst 3, 1) := by decide +kernel
theorem d_M_fill_91 : decode m_M_fill.2.1 91 = .ok (.if_icmp .ne 7, 3) := by decide +kernel
theorem d_M_fill_94 : decode m_M_fill.2.1 94 = .ok (.iconst 1, 1) := by decide +kernel
theorem d_M_fill_95 : decode m_M_fill.2.1 95 = .ok (.goto 4, 3) := by decide +kernel
theorem d_M_fill_98 : decode m_M_fill.2.1 98 = .ok (.iconst 0, 1) := by decide +kernel
theorem d_M_fill_99 : decode m_M_fill.2.1 99 = .ok (.putfield 52, 3) := by decide +kernel
theorem d_M_fill_102 : decode m_M_fill.2.1 102 = .ok (.aload_n 0, 1) := by decide +kernel
theorem d_M_fill_103 : decode m_M_fill.2.1 103 = .ok (.getfield 52, 3) := by decide +kernel
theorem d_M_fill_106 : decode m_M_fill.2.1 106 = .ok (.ifCond .le 7, 3) := by decide +kernel
theorem d_M_fill_109 : decode m_M_fill.2.1 109 = .ok (.iconst 0, 1) := by decide +kernel
theorem d_M_fill_110 : decode m_M_fill.2.1 110 = .ok (.goto 15, 3) := by decide +kernel
theorem d_M_fill_113 : decode m_M_fill.2.1 113 = .ok (.aload_n 0, 1) := by decide +kernel
theorem d_M_fill_114 : decode m_M_fill.2.1 114 = .ok (.iconst 3, 1) := by decide +kernel
theorem d_M_fill_115 : decode m_M_fill.2.1 115 = .ok (.iconst 0, 1) := by decide +kernel
theorem d_M_fill_116 : decode m_M_fill.2.1 116 = .ok (.iload_n 1, 1) := by decide +kernel
theorem d_M_fill_117 : decode m_M_fill.2.1 117 = .ok (.iconst (-1), 1) := by decide +kernel
theorem d_M_fill_118 : decode m_M_fill.2.1 118 = .ok (.iload_n 2, 1) := by decide +kernel
theorem d_M_fill_119 : decode m_M_fill.2.1 119 = .ok (.iload_n 3, 1) := by decide +kernel
theorem d_M_fill_120 : decode m_M_fill.2.1 120 = .ok (.iload 4, 2) := by decide +kernel
theorem d_M_fill_122 : decode m_M_fill.2.1 122 = .ok (.invokevirtual 77, 3) := by decide +kernel
theorem d_M_fill_125 : decode m_M_fill.2.1 125 = .ok (.ireturn, 1) := by decide +kernel
theorem d_M_isArgument_0 : decode m_M_isArgument.2.1 0 = .ok (.aload_n 0, 1) := by decide +kernel
theorem d_M_isArgument_1 : decode m_M_isArgument.2.1 1 = .ok (.iload_n 1, 1) := by decide +kernel
theorem d_M_isArgument_2 : decode m_M_isArgument.2.1 2 = .ok (.invokevirtual 63, 3) := by decide +kernel
theorem d_M_isArgument_5 : decode m_M_isArgument.2.1 5 = .ok (.ifCond .ne 34, 3) := by decide +kernel
theorem d_M_isArgument_8 : decode m_M_isArgument.2.1 8 = .ok (.aload_n 0, 1) := by decide +kernel
theorem d_M_isArgument_9 : decode m_M_isArgument.2.1 9 = .ok (.iload_n 1, 1) := by decide +kernel
theorem d_M_isArgument_10 : decode m_M_isArgument.2.1 10 = .ok (.invokevirtual 59, 3) := by decide +kernel
theorem d_M_isArgument_13 : decode m_M_isArgument.2.1 13 = .ok (.ifCond .eq 30, 3) := by decide +kernel
theorem d_M_isArgument_16 : decode m_M_isArgument.2.1 16 = .ok (.aload_n 0, 1) := by decide +kernel
theorem d_M_isArgument_17 : decode m_M_isArgument.2.1 17 = .ok (.getfield 7, 3) := by decide +kernel
theorem d_M_isArgument_20 : decode m_M_isArgument.2.1 20 = .ok (.aload_n 0, 1) := by decide +kernel
theorem d_M_isArgument_21 : decode m_M_isArgument.2.1 21 = .ok (.iload_n 1, 1) := by decide +kernel
theorem d_M_isArgument_22 : decode m_M_isArgument.2.1 22 = .ok (.invokevirtual 59, 3) := by decide +kernel
theorem d_M_isArgument_25 : decode m_M_isArgument.2.1 25 = .ok (.ifCond .eq 7, 3) := by decide +kernel
theorem d_M_isArgument_28 : decode m_M_isArgument.2.1 28 = .ok (.iload_n 1, 1) := by decide +kernel
theorem d_M_isArgument_29 : decode m_M_isArgument.2.1 29 = .ok (.goto 4, 3) := by decide +kernel
theorem d_M_isArgument_32 : decode m_M_isArgument.2.1 32 = .ok (.iconst 0, 1) := by decide +kernel
theorem d_M_isArgument_33 : decode m_M_isArgument.2.1 33 = .ok (.iaload, 1) := by decide +kernel
theorem d_M_isArgument_34 : decode m_M_isArgument.2.1 34 = .ok (.bipush 9, 2) := by decide +kernel
theorem d_M_isArgument_36 : decode m_M_isArgument.2.1 36 = .ok (.if_icmp .ne 7, 3) := by decide +kernel
theorem d_M_isArgument_39 : decode m_M_isArgument.2.1 39 = .ok (.iconst 1, 1) := by decide +kernel
theorem d_M_isArgument_40 : decode m_M_isArgument.2.1 40 = .ok (.goto 4, 3) := by decide +kernel
theorem d_M_isArgument_43 : decode m_M_isArgument.2.1 43 = .ok (.iconst 0, 1) := by decide +kernel
theorem d_M_isArgument_44 : decode m_M_isArgument.2.1 44 = .ok (.ireturn, 1) := by decide +kernel
theorem d_M_isType_0 : decode m_M_isType.2.1 0 = .ok (.aload_n 0, 1) := by decide +kernel
theorem d_M_isType_1 : decode m_M_isType.2.1 1 = .ok (.iload_n 1, 1) := by decide +kernel
theorem d_M_isType_2 : decode m_M_isType.2.1 2 = .ok (.invokevirtual 59, 3) := by decide +kernel
theorem d_M_isType_5 : decode m_M_isType.2.1 5 = .ok (.ifCond .eq 30, 3) := by decide +kernel
theorem d_M_isType_8 : decode m_M_isType.2.1 8 = .ok (.aload_n 0, 1) := by decide +kernel
theorem d_M_isType_9 : decode m_M_isType.2.1 9 = .ok (.getfield 7, 3) := by decide +kernel
theorem d_M_isType_12 : decode m_M_isType.2.1 12 = .ok (.aload_n 0, 1) := by decide +kernel
theorem d_M_isType_13 : decode m_M_isType.2.1 13 = .ok (.iload_n 1, 1) := by decide +kernel
theorem d_M_isType_14 : decode m_M_isType.2.1 14 = .ok (.invokevirtual 59, 3) := by decide +kernel
theorem d_M_isType_17 : decode m_M_isType.2.1 17 = .ok (.ifCond .eq 7, 3) := by decide +kernel
theorem d_M_isType_20 : decode m_M_isType.2.1 20 = .ok (.iload_n 1, 1) := by decide +kernel
theorem d_M_isType_21 : decode m_M_isType.2.1 21 = .ok (.goto 4, 3) := by decide +kernel
theorem d_M_isType_24 : decode m_M_isType.2.1 24 = .ok (.iconst 0, 1) := by decide +kernel
theorem d_M_isType_25 : decode m_M_isType.2.1 25 = .ok (.iaload, 1) := by decide +kernel
theorem d_M_isType_26 : decode m_M_isType.2.1 26 = .ok (.bipush 9, 2) := by decide +kernel
theorem d_M_isType_28 : decode m_M_isType.2.1 28 = .ok (.if_icmp .ge 7, 3) := by decide +kernel
theorem d_M_isType_31 : decode m_M_isType.2.1 31 = .ok (.iconst 1, 1) := by decide +kernel
theorem d_M_isType_32 : decode m_M_isType.2.1 32 = .ok (.goto 4, 3) := by decide +kernel
theorem d_M_isType_35 : decode m_M_isType.2.1 35 = .ok (.iconst 0, 1) := by decide +kernel
theorem d_M_isType_36 : decode m_M_isType.2.1 36 = .ok (.ireturn, 1) := by decide +kernel
theorem d_M_wrap_0 : decode m_M_wrap.2.1 0 = .ok (.aload_n 0, 1) := by decide +kernel
theorem d_M_wrap_1 : decode m_M_wrap.2.1 1 = .ok (.iload_n 1, 1) := by decide +kernel
theorem d_M_wrap_2 : decode m_M_wrap.2.1 2 = .ok (.iconst 4, 1) := by decide +kernel
theorem d_M_wrap_3 : decode m_M_wrap.2.1 3 = .ok (.if_icmp .lt 17, 3) := by decide +kernel
theorem d_M_wrap_6 : decode m_M_wrap.2.1 6 = .ok (.iload_n 1, 1) := by decide +kernel
theorem d_M_wrap_7 : decode m_M_wrap.2.1 7 = .ok (.bipush 6, 2) := by decide +kernel
theorem d_M_wrap_9 : decode m_M_wrap.2.1 9 = .ok (.if_icmp .gt 11, 3) := by decide +kernel
theorem d_M_wrap_12 : decode m_M_wrap.2.1 12 = .ok (.aload_n 0, 1) := by decide +kernel
theorem d_M_wrap_13 : decode m_M_wrap.2.1 13 = .ok (.iload_n 2, 1) := by decide +kernel
theorem d_M_wrap_14 : decode m_M_wrap.2.1 14 = .ok (.invokevirtual 63, 3) := by decide +kernel
theorem d_M_wrap_17 : decode m_M_wrap.2.1 17 = .ok (.ifCond .ne 7, 3) := by decide +kernel
theorem d_M_wrap_20 : decode m_M_wrap.2.1 20 = .ok (.iconst 1, 1) := by decide +kernel
theorem d_M_wrap_21 : decode m_M_wrap.2.1 21 = .ok (.goto 4, 3) := by decide +kernel
theorem d_M_wrap_24 : decode m_M_wrap.2.1 24 = .ok (.iconst 0, 1) := by decide +kernel
theorem d_M_wrap_25 : decode m_M_wrap.2.1 25 = .ok (.putfield 52, 3) := by decide +kernel
theorem d_M_wrap_28 : decode m_M_wrap.2.1 28 = .ok (.aload_n 0, 1) := by decide +kernel
theorem d_M_wrap_29 : decode m_M_wrap.2.1 29 = .ok (.getfield 52, 3) := by decide +kernel
theorem d_M_wrap_32 : decode m_M_wrap.2.1 32 = .ok (.ifCond .le 5, 3) := by decide +kernel
theorem d_M_wrap_35 : decode m_M_wrap.2.1 35 = .ok (.iconst 0, 1) := by decide +kernel
theorem d_M_wrap_36 : decode m_M_wrap.2.1 36 = .ok (.ireturn, 1) := by decide +kernel
theorem d_M_wrap_37 : decode m_M_wrap.2.1 37 = .ok (.aload_n 0, 1) := by decide +kernel
theorem d_M_wrap_38 : decode m_M_wrap.2.1 38 = .ok (.iload_n 1, 1) := by decide +kernel
theorem d_M_wrap_39 : decode m_M_wrap.2.1 39 = .ok (.bipush 6, 2) := by decide +kernel
theorem d_M_wrap_41 : decode m_M_wrap.2.1 41 = .ok (.if_icmp .ne 18, 3) := by decide +kernel
theorem d_M_wrap_44 : decode m_M_wrap.2.1 44 = .ok (.aload_n 0, 1) := by decide +kernel
theorem d_M_wrap_45 : decode m_M_wrap.2.1 45 = .ok (.getfield 7, 3) := by decide +kernel
theorem d_M_wrap_48 : decode m_M_wrap.2.1 48 = .ok (.iload_n 2, 1) := by decide +kernel
theorem d_M_wrap_49 : decode m_M_wrap.2.1 49 = .ok (.iaload, 1) := by decide +kernel
theorem d_M_wrap_50 : decode m_M_wrap.2.1 50 = .ok (.bipush 6, 2) := by decide +kernel
theorem d_M_wrap_52 : decode m_M_wrap.2.1 52 = .ok (.if_icmp .ne 7, 3) := by decide +kernel
theorem d_M_wrap_55 : decode m_M_wrap.2.1 55 = .ok (.iconst 1, 1) := by decide +kernel
theorem d_M_wrap_56 : decode m_M_wrap.2.1 56 = .ok (.goto 4, 3) := by decide +kernel
theorem d_M_wrap_59 : decode m_M_wrap.2.1 59 = .ok (.iconst 0, 1) := by decide +kernel
theorem d_M_wrap_60 : decode m_M_wrap.2.1 60 = .ok (.putfield 52, 3) := by decide +kernel
theorem d_M_wrap_63 : decode m_M_wrap.2.1 63 = .ok (.aload_n 0, 1) := by decide +kernel
theorem d_M_wrap_64 : decode m_M_wrap.2.1 64 = .ok (.getfield 52, 3) := by decide +kernel
theorem d_M_wrap_67 : decode m_M_wrap.2.1 67 = .ok (.ifCond .le 7, 3) := by decide +kernel
theorem d_M_wrap_70 : decode m_M_wrap.2.1 70 = .ok (.iconst 0, 1) := by decide +kernel
theorem d_M_wrap_71 : decode m_M_wrap.2.1 71 = .ok (.goto 14, 3) := by decide +kernel
theorem d_M_wrap_74 : decode m_M_wrap.2.1 74 = .ok (.aload_n 0, 1) := by decide +kernel
theorem d_M_wrap_75 : decode m_M_wrap.2.1 75 = .ok (.iload_n 1, 1) := by decide +kernel
theorem d_M_wrap_76 : decode m_M_wrap.2.1 76 = .ok (.iconst 0, 1) := by decide +kernel
theorem d_M_wrap_77 : decode m_M_wrap.2.1 77 = .ok (.iload_n 2, 1) := by decide +kernel
theorem d_M_wrap_78 : decode m_M_wrap.2.1 78 = .ok (.iconst (-1), 1) := by decide +kernel
theorem d_M_wrap_79 : decode m_M_wrap.2.1 79 = .ok (.iconst (-1), 1) := by decide +kernel
theorem d_M_wrap_80 : decode m_M_wrap.2.1 80 = .ok (.iconst (-1), 1) := by decide +kernel
theorem d_M_wrap_81 : decode m_M_wrap.2.1 81 = .ok (.iconst (-1), 1) := by decide +kernel
theorem d_M_wrap_82 : decode m_M_wrap.2.1 82 = .ok (.invokevirtual 77, 3) := by decide +kernel
theorem d_M_wrap_85 : decode m_M_wrap.2.1 85 = .ok (.ireturn, 1) := by decide +kernel
theorem d_M_array_0 : decode m_M_array.2.1 0 = .ok (.aload_n 0, 1) := by decide +kernel
theorem d_M_array_1 : decode m_M_array.2.1 1 = .ok (.aload_n 0, 1) := by decide +kernel
theorem d_M_array_2 : decode m_M_array.2.1 2 = .ok (.iload_n 1, 1) := by decide +kernel
theorem d_M_array_3 : decode m_M_array.2.1 3 = .ok (.invokevirtual 63, 3) := by decide +kernel
theorem d_M_array_6 : decode m_M_array.2.1 6 = .ok (.ifCond .eq 19, 3) := by decide +kernel
theorem d_M_array_9 : decode m_M_array.2.1 9 = .ok (.iload_n 2, 1) := by decide +kernel
theorem d_M_array_10 : decode m_M_array.2.1 10 = .ok (.iconst 1, 1) := by decide +kernel
theorem d_M_array_11 : decode m_M_array.2.1 11 = .ok (.if_icmp .lt 14, 3) := by decide +kernel
theorem d_M_array_14 : decode m_M_array.2.1 14 = .ok (.iload_n 2, 1) := by decide +kernel
theorem d_M_array_15 : decode m_M_array.2.1 15 = .ok (.sipush 999, 3) := by decide +kernel
theorem d_M_array_18 : decode m_M_array.2.1 18 = .ok (.if_icmp .gt 7, 3) := by decide +kernel
theorem d_M_array_21 : decode m_M_array.2.1 21 = .ok (.iconst 0, 1) := by decide +kernel
theorem d_M_array_22 : decode m_M_array.2.1 22 = .ok (.goto 4, 3) := by decide +kernel
theorem d_M_array_25 : decode m_M_array.2.1 25 = .ok (.iconst 1, 1) := by decide +kernel
theorem d_M_array_26 : decode m_M_array.2.1 26 = .ok (.putfield 52, 3) := by decide +kernel
theorem d_M_array_29 : decode m_M_array.2.1 29 = .ok (.aload_n 0, 1) := by decide +kernel
theorem d_M_array_30 : decode m_M_array.2.1 30 = .ok (.getfield 52, 3) := by decide +kernel
theorem d_M_array_33 : decode m_M_array.2.1 33 = .ok (.ifCond .le 7, 3) := by decide +kernel
theorem d_M_array_36 : decode m_M_array.2.1 36 = .ok (.iconst 0, 1) := by decide +kernel
theorem d_M_array_37 : decode m_M_array.2.1 37 = .ok (.goto 15, 3) := by decide +kernel
theorem d_M_array_40 : decode m_M_array.2.1 40 = .ok (.aload_n 0, 1) := by decide +kernel
theorem d_M_array_41 : decode m_M_array.2.1 41 = .ok (.bipush 7, 2) := by decide +kernel
theorem d_M_array_43 : decode m_M_array.2.1 43 = .ok (.iload_n 2, 1) := by decide +kernel
theorem d_M_array_44 : decode m_M_array.2.1 44 = .ok (.iload_n 1, 1) := by decide +kernel
theorem d_M_array_45 : decode m_M_array.2.1 45 = .ok (.iconst (-1), 1) := by decide +kernel
theorem d_M_array_46 : decode m_M_array.2.1 46 = .ok (.iconst (-1), 1) := by decide +kernel
theorem d_M_array_47 : decode m_M_array.2.1 47 = .ok (.iconst (-1), 1) := by decide +kernel
theorem d_M_array_48 : decode m_M_array.2.1 48 = .ok (.iconst (-1), 1) := by decide +kernel
theorem d_M_array_49 : decode m_M_array.2.1 49 = .ok (.invokevirtual 77, 3) := by decide +kernel
theorem d_M_array_52 : decode m_M_array.2.1 52 = .ok (.ireturn, 1) := by decide +kernel
theorem d_M_function_0 : decode m_M_function.2.1 0 = .ok (.aload_n 0, 1) := by decide +kernel
theorem d_M_function_1 : decode m_M_function.2.1 1 = .ok (.aload_n 0, 1) := by decide +kernel
theorem d_M_function_2 : decode m_M_function.2.1 2 = .ok (.iload_n 1, 1) := by decide +kernel
theorem d_M_function_3 : decode m_M_function.2.1 3 = .ok (.invokevirtual 63, 3) := by decide +kernel
theorem d_M_function_6 : decode m_M_function.2.1 6 = .ok (.ifCond .eq 18, 3) := by decide +kernel
theorem d_M_function_9 : decode m_M_function.2.1 9 = .ok (.aload_n 0, 1) := by decide +kernel
theorem d_M_function_10 : decode m_M_function.2.1 10 = .ok (.iload_n 2, 1) := by decide +kernel
theorem d_M_function_11 : decode m_M_function.2.1 11 = .ok (.iload_n 3, 1) := by decide +kernel
theorem d_M_function_12 : decode m_M_function.2.1 12 = .ok (.iload 4, 2) := by decide +kernel
theorem d_M_function_14 : decode m_M_function.2.1 14 = .ok (.invokevirtual 92, 3) := by decide +kernel
theorem d_M_function_17 : decode m_M_function.2.1 17 = .ok (.ifCond .eq 7, 3) := by decide +kernel
theorem d_M_function_20 : decode m_M_function.2.1 20 = .ok (.iconst 0, 1) := by decide +kernel
theorem d_M_function_21 : decode m_M_function.2.1 21 = .ok (.goto 4, 3) := by decide +kernel
theorem d_M_function_24 : decode m_M_function.2.1 24 = .ok (.iconst 1, 1) := by decide +kernel
theorem d_M_function_25 : decode m_M_function.2.1 25 = .ok (.putfield 52, 3) := by decide +kernel
theorem d_M_function_28 : decode m_M_function.2.1 28 = .ok (.aload_n 0, 1) := by decide +kernel
theorem d_M_function_29 : decode m_M_function.2.1 29 = .ok (.getfield 52, 3) := by decide +kernel
theorem d_M_function_32 : decode m_M_function.2.1 32 = .ok (.ifCond .le 7, 3) := by decide +kernel
theorem d_M_function_35 : decode m_M_function.2.1 35 = .ok (.iconst 0, 1) := by decide +kernel
theorem d_M_function_36 : decode m_M_function.2.1 36 = .ok (.goto 16, 3) := by decide +kernel
theorem d_M_function_39 : decode m_M_function.2.1 39 = .ok (.aload_n 0, 1) := by decide +kernel
theorem d_M_function_40 : decode m_M_function.2.1 40 = .ok (.bipush 8, 2) := by decide +kernel
theorem d_M_function_42 : decode m_M_function.2.1 42 = .ok (.iconst 0, 1) := by decide +kernel
theorem d_M_function_43 : decode m_M_function.2.1 43 = .ok (.iload_n 1, 1) := by decide +kernel
theorem d_M_function_44 : decode m_M_function.2.1 44 = .ok (.iconst (-1), 1) := by decide +kernel
theorem d_M_function_45 : decode m_M_function.2.1 45 = .ok (.iload_n 2, 1) := by decide +kernel
theorem d_M_function_46 : decode m_M_function.2.1 46 = .ok (.iload_n 3, 1) := by decide +kernel
theorem d_M_function_47 : decode m_M_function.2.1 47 = .ok (.iload 4, 2) := by decide +kernel
theorem d_M_function_49 : decode m_M_function.2.1 49 = .ok (.invokevirtual 77, 3) := by decide +kernel
theorem d_M_function_52 : decode m_M_function.2.1 52 = .ok (.ireturn, 1) := by decide +kernel
theorem d_M_areParameters_0 : decode m_M_areParameters.2.1 0 = .ok (.iload_n 1, 1) := by decide +kernel
theorem d_M_areParameters_1 : decode m_M_areParameters.2.1 1 = .ok (.iconst (-1), 1) := by decide +kernel
theorem d_M_areParameters_2 : decode m_M_areParameters.2.1 2 = .ok (.if_icmp .ne 19, 3) := by decide +kernel
theorem d_M_areParameters_5 : decode m_M_areParameters.2.1 5 = .ok (.iload_n 2, 1) := by decide +kernel
theorem d_M_areParameters_6 : decode m_M_areParameters.2.1 6 = .ok (.iconst (-1), 1) := by decide +kernel
theorem d_M_areParameters_7 : decode m_M_areParameters.2.1 7 = .ok (.if_icmp .ne 12, 3) := by decide +kernel
theorem d_M_areParameters_10 : decode m_M_areParameters.2.1 10 = .ok (.iload_n 3, 1) := by decide +kernel
theorem d_M_areParameters_11 : decode m_M_areParameters.2.1 11 = .ok (.iconst (-1), 1) := by decide +kernel
theorem d_M_areParameters_12 : decode m_M_areParameters.2.1 12 = .ok (.if_icmp .ne 7, 3) := by decide +kernel
theorem d_M_areParameters_15 : decode m_M_areParameters.2.1 15 = .ok (.iconst 1, 1) := by decide +kernel
theorem d_M_areParameters_16 : decode m_M_areParameters.2.1 16 = .ok (.goto 4, 3) := by decide +kernel
theorem d_M_areParameters_19 : decode m_M_areParameters.2.1 19 = .ok (.iconst 0, 1) := by decide +kernel
theorem d_M_areParameters_20 : decode m_M_areParameters.2.1 20 = .ok (.ireturn, 1) := by decide +kernel
theorem d_M_areParameters_21 : decode m_M_areParameters.2.1 21 = .ok (.iload_n 2, 1) := by decide +kernel
theorem d_M_areParameters_22 : decode m_M_areParameters.2.1 22 = .ok (.iconst (-1), 1) := by decide +kernel
theorem d_M_areParameters_23 : decode m_M_areParameters.2.1 23 = .ok (.if_icmp .ne 22, 3) := by decide +kernel
theorem d_M_areParameters_26 : decode m_M_areParameters.2.1 26 = .ok (.aload_n 0, 1) := by decide +kernel
theorem d_M_areParameters_27 : decode m_M_areParameters.2.1 27 = .ok (.iload_n 1, 1) := by decide +kernel
theorem d_M_areParameters_28 : decode m_M_areParameters.2.1 28 = .ok (.invokevirtual 89, 3) := by decide +kernel
theorem d_M_areParameters_31 : decode m_M_areParameters.2.1 31 = .ok (.ifCond .eq 12, 3) := by decide +kernel
theorem d_M_areParameters_34 : decode m_M_areParameters.2.1 34 = .ok (.iload_n 3, 1) := by decide +kernel
theorem d_M_areParameters_35 : decode m_M_areParameters.2.1 35 = .ok (.iconst (-1), 1) := by decide +kernel
theorem d_M_areParameters_36 : decode m_M_areParameters.2.1 36 = .ok (.if_icmp .ne 7, 3) := by decide +kernel
theorem d_M_areParameters_39 : decode m_M_areParameters.2.1 39 = .ok (.iconst 1, 1) := by decide +kernel
theorem d_M_areParameters_40 : decode m_M_areParameters.2.1 40 = .ok (.goto 4, 3) := by decide +kernel
theorem d_M_areParameters_43 : decode m_M_areParameters.2.1 43 = .ok (.iconst 0, 1) := by decide +kernel
theorem d_M_areParameters_44 : decode m_M_areParameters.2.1 44 = .ok (.ireturn, 1) := by decide +kernel
theorem d_M_areParameters_45 : decode m_M_areParameters.2.1 45 = .ok (.aload_n 0, 1) := by decide +kernel
theorem d_M_areParameters_46 : decode m_M_areParameters.2.1 46 = .ok (.iload_n 1, 1) := by decide +kernel
theorem d_M_areParameters_47 : decode m_M_areParameters.2.1 47 = .ok (.invokevirtual 89, 3) := by decide +kernel
theorem d_M_areParameters_50 : decode m_M_areParameters.2.1 50 = .ok (.ifCond .eq 28, 3) := by decide +kernel
theorem d_M_areParameters_53 : decode m_M_areParameters.2.1 53 = .ok (.aload_n 0, 1) := by decide +kernel
theorem d_M_areParameters_54 : decode m_M_areParameters.2.1 54 = .ok (.iload_n 2, 1) := by decide +kernel
theorem d_M_areParameters_55 : decode m_M_areParameters.2.1 55 = .ok (.invokevirtual 89, 3) := by decide +kernel
theorem d_M_areParameters_58 : decode m_M_areParameters.2.1 58 = .ok (.ifCond .eq 20, 3) := by decide +kernel
theorem d_M_areParameters_61 : decode m_M_areParameters.2.1 61 = .ok (.iload_n 3, 1) := by decide +kernel
theorem d_M_areParameters_62 : decode m_M_areParameters.2.1 62 = .ok (.iconst (-1), 1) := by decide +kernel
theorem d_M_areParameters_63 : decode m_M_areParameters.2.1 63 = .ok (.if_icmp .eq 11, 3) := by decide +kernel
theorem d_M_areParameters_66 : decode m_M_areParameters.2.1 66 = .ok (.aload_n 0, 1) := by decide +kernel
theorem d_M_areParameters_67 : decode m_M_areParameters.2.1 67 = .ok (.iload_n 3, 1) := by decide +kernel
theorem d_M_areParameters_68 : decode m_M_areParameters.2.1 68 = .ok (.invokevirtual 89, 3) := by decide +kernel
theorem d_M_areParameters_71 : decode m_M_areParameters.2.1 71 = .ok (.ifCond .eq 7, 3) := by decide +kernel
theorem d_M_areParameters_74 : decode m_M_areParameters.2.1 74 = .ok (.iconst 1, 1) := by decide +kernel
theorem d_M_areParameters_75 : decode m_M_areParameters.2.1 75 = .ok (.goto 4, 3) := by decide +kernel
theorem d_M_areParameters_78 : decode m_M_areParameters.2.1 78 = .ok (.iconst 0, 1) := by decide +kernel
theorem d_M_areParameters_79 : decode m_M_areParameters.2.1 79 = .ok (.ireturn, 1) := by decide +kernel
theorem d_M_isParameter_0 : decode m_M_isParameter.2.1 0 = .ok (.aload_n 0, 1) := by decide +kernel
theorem d_M_isParameter_1 : decode m_M_isParameter.2.1 1 = .ok (.iload_n 1, 1) := by decide +kernel
theorem d_M_isParameter_2 : decode m_M_isParameter.2.1 2 = .ok (.invokevirtual 63, 3) := by decide +kernel
theorem d_M_isParameter_5 : decode m_M_isParameter.2.1 5 = .ok (.ifCond .eq 49, 3) := by decide +kernel
theorem d_M_isParameter_8 : decode m_M_isParameter.2.1 8 = .ok (.aload_n 0, 1) := by decide +kernel
theorem d_M_isParameter_9 : decode m_M_isParameter.2.1 9 = .ok (.getfield 7, 3) := by decide +kernel
theorem d_M_isParameter_12 : decode m_M_isParameter.2.1 12 = .ok (.aload_n 0, 1) := by decide +kernel
theorem d_M_isParameter_13 : decode m_M_isParameter.2.1 13 = .ok (.iload_n 1, 1) := by decide +kernel
theorem d_M_isParameter_14 : decode m_M_isParameter.2.1 14 = .ok (.invokevirtual 63, 3) := by decide +kernel
theorem d_M_isParameter_17 : decode m_M_isParameter.2.1 17 = .ok (.ifCond .eq 7, 3) := by decide +kernel
theorem d_M_isParameter_20 : decode m_M_isParameter.2.1 20 = .ok (.iload_n 1, 1) := by decide +kernel
theorem d_M_isParameter_21 : decode m_M_isParameter.2.1 21 = .ok (.goto 4, 3) := by decide +kernel
theorem d_M_isParameter_24 : decode m_M_isParameter.2.1 24 = .ok (.iconst 0, 1) := by decide +kernel
theorem d_M_isParameter_25 : decode m_M_isParameter.2.1 25 = .ok (.iaload, 1) := by decide +kernel
theorem d_M_isParameter_26 : decode m_M_isParameter.2.1 26 = .ok (.ifCond .ne 24, 3) := by decide +kernel
theorem d_M_isParameter_29 : decode m_M_isParameter.2.1 29 = .ok (.aload_n 0, 1) := by decide +kernel
theorem d_M_isParameter_30 : decode m_M_isParameter.2.1 30 = .ok (.getfield 13, 3) := by decide +kernel
theorem d_M_isParameter_33 : decode m_M_isParameter.2.1 33 = .ok (.aload_n 0, 1) := by decide +kernel
theorem d_M_isParameter_34 : decode m_M_isParameter.2.1 34 = .ok (.iload_n 1, 1) := by decide +kernel
theorem d_M_isParameter_35 : decode m_M_isParameter.2.1 35 = .ok (.invokevirtual 63, 3) := by decide +kernel
theorem d_M_isParameter_38 : decode m_M_isParameter.2.1 38 = .ok (.ifCond .eq 7, 3) := by decide +kernel
theorem d_M_isParameter_41 : decode m_M_isParameter.2.1 41 = .ok (.iload_n 1, 1) := by decide +kernel
theorem d_M_isParameter_42 : decode m_M_isParameter.2.1 42 = .ok (.goto 4, 3) := by decide +kernel
theorem d_M_isParameter_45 : decode m_M_isParameter.2.1 45 = .ok (.iconst 0, 1) := by decide +kernel
theorem d_M_isParameter_46 : decode m_M_isParameter.2.1 46 = .ok (.iaload, 1) := by decide +kernel
theorem d_M_isParameter_47 : decode m_M_isParameter.2.1 47 = .ok (.ifCond .eq 7, 3) := by decide +kernel
theorem d_M_isParameter_50 : decode m_M_isParameter.2.1 50 = .ok (.iconst 1, 1) := by decide +kernel
theorem d_M_isParameter_51 : decode m_M_isParameter.2.1 51 = .ok (.goto 4, 3) := by decide +kernel
theorem d_M_isParameter_54 : decode m_M_isParameter.2.1 54 = .ok (.iconst 0, 1) := by decide +kernel
theorem d_M_isParameter_55 : decode m_M_isParameter.2.1 55 = .ok (.ireturn, 1) := by decide +kernel
theorem d_M_literal_0 : decode m_M_literal.2.1 0 = .ok (.aload_n 0, 1) := by decide +kernel
theorem d_M_literal_1 : decode m_M_literal.2.1 1 = .ok (.aload_n 0, 1) := by decide +kernel
theorem d_M_literal_2 : decode m_M_literal.2.1 2 = .ok (.iload_n 1, 1) := by decide +kernel
theorem d_M_literal_3 : decode m_M_literal.2.1 3 = .ok (.invokevirtual 89, 3) := by decide +kernel
theorem d_M_literal_6 : decode m_M_literal.2.1 6 = .ok (.ifCond .eq 19, 3) := by decide +kernel
theorem d_M_literal_9 : decode m_M_literal.2.1 9 = .ok (.iload_n 2, 1) := by decide +kernel
theorem d_M_literal_10 : decode m_M_literal.2.1 10 = .ok (.ldc 96, 2) := by decide +kernel
theorem d_M_literal_12 : decode m_M_literal.2.1 12 = .ok (.if_icmp .lt 13, 3) := by decide +kernel
theorem d_M_literal_15 : decode m_M_literal.2.1 15 = .ok (.iload_n 2, 1) := by decide +kernel
theorem d_M_literal_16 : decode m_M_literal.2.1 16 = .ok (.ldc 97, 2) := by decide +kernel
theorem d_M_literal_18 : decode m_M_literal.2.1 18 = .ok (.if_icmp .gt 7, 3) := by decide +kernel
theorem d_M_literal_21 : decode m_M_literal.2.1 21 = .ok (.iconst 0, 1) := by decide +kernel
theorem d_M_literal_22 : decode m_M_literal.2.1 22 = .ok (.goto 4, 3) := by decide +kernel
theorem d_M_literal_25 : decode m_M_literal.2.1 25 = .ok (.iconst 1, 1) := by decide +kernel
theorem d_M_literal_26 : decode m_M_literal.2.1 26 = .ok (.putfield 52, 3) := by decide +kernel
theorem d_M_literal_29 : decode m_M_literal.2.1 29 = .ok (.aload_n 0, 1) := by decide +kernel
theorem d_M_literal_30 : decode m_M_literal.2.1 30 = .ok (.getfield 52, 3) := by decide +kernel
theorem d_M_literal_33 : decode m_M_literal.2.1 33 = .ok (.ifCond .le 5, 3) := by decide +kernel
theorem d_M_literal_36 : decode m_M_literal.2.1 36 = .ok (.iconst 0, 1) := by decide +kernel
theorem d_M_literal_37 : decode m_M_literal.2.1 37 = .ok (.ireturn, 1) := by decide +kernel
theorem d_M_literal_38 : decode m_M_literal.2.1 38 = .ok (.aload_n 0, 1) := by decide +kernel
theorem d_M_literal_39 : decode m_M_literal.2.1 39 = .ok (.aload_n 0, 1) := by decide +kernel
theorem d_M_literal_40 : decode m_M_literal.2.1 40 = .ok (.getfield 7, 3) := by decide +kernel
theorem d_M_literal_43 : decode m_M_literal.2.1 43 = .ok (.iload_n 1, 1) := by decide +kernel
theorem d_M_literal_44 : decode m_M_literal.2.1 44 = .ok (.iaload, 1) := by decide +kernel
theorem d_M_literal_45 : decode m_M_literal.2.1 45 = .ok (.ifCond .ne 7, 3) := by decide +kernel
theorem d_M_literal_48 : decode m_M_literal.2.1 48 = .ok (.iconst 0, 1) := by decide +kernel
theorem d_M_literal_49 : decode m_M_literal.2.1 49 = .ok (.goto 4, 3) := by decide +kernel
theorem d_M_literal_52 : decode m_M_literal.2.1 52 = .ok (.iconst 1, 1) := by decide +kernel
theorem d_M_literal_53 : decode m_M_literal.2.1 53 = .ok (.putfield 52, 3) := by decide +kernel
theorem d_M_literal_56 : decode m_M_literal.2.1 56 = .ok (.aload_n 0, 1) := by decide +kernel
theorem d_M_literal_57 : decode m_M_literal.2.1 57 = .ok (.getfield 52, 3) := by decide +kernel
theorem d_M_literal_60 : decode m_M_literal.2.1 60 = .ok (.ifCond .le 7, 3) := by decide +kernel
theorem d_M_literal_63 : decode m_M_literal.2.1 63 = .ok (.iconst 0, 1) := by decide +kernel
theorem d_M_literal_64 : decode m_M_literal.2.1 64 = .ok (.goto 15, 3) := by decide +kernel
theorem d_M_literal_67 : decode m_M_literal.2.1 67 = .ok (.aload_n 0, 1) := by decide +kernel
theorem d_M_literal_68 : decode m_M_literal.2.1 68 = .ok (.bipush 9, 2) := by decide +kernel
theorem d_M_literal_70 : decode m_M_literal.2.1 70 = .ok (.iload_n 2, 1) := by decide +kernel
theorem d_M_literal_71 : decode m_M_literal.2.1 71 = .ok (.iload_n 1, 1) := by decide +kernel
theorem d_M_literal_72 : decode m_M_literal.2.1 72 = .ok (.iconst (-1), 1) := by decide +kernel
theorem d_M_literal_73 : decode m_M_literal.2.1 73 = .ok (.iconst (-1), 1) := by decide +kernel
theorem d_M_literal_74 : decode m_M_literal.2.1 74 = .ok (.iconst (-1), 1) := by decide +kernel
theorem d_M_literal_75 : decode m_M_literal.2.1 75 = .ok (.iconst (-1), 1) := by decide +kernel
theorem d_M_literal_76 : decode m_M_literal.2.1 76 = .ok (.invokevirtual 77, 3) := by decide +kernel
theorem d_M_literal_79 : decode m_M_literal.2.1 79 = .ok (.ireturn, 1) := by decide +kernel
theorem d_M_entity_0 : decode m_M_entity.2.1 0 = .ok (.aload_n 0, 1) := by decide +kernel
theorem d_M_entity_1 : decode m_M_entity.2.1 1 = .ok (.aload_n 0, 1) := by decide +kernel
theorem d_M_entity_2 : decode m_M_entity.2.1 2 = .ok (.iload_n 1, 1) := by decide +kernel
theorem d_M_entity_3 : decode m_M_entity.2.1 3 = .ok (.invokevirtual 83, 3) := by decide +kernel
theorem d_M_entity_6 : decode m_M_entity.2.1 6 = .ok (.ifCond .eq 19, 3) := by decide +kernel
theorem d_M_entity_9 : decode m_M_entity.2.1 9 = .ok (.aload_n 0, 1) := by decide +kernel
theorem d_M_entity_10 : decode m_M_entity.2.1 10 = .ok (.iload_n 3, 1) := by decide +kernel
theorem d_M_entity_11 : decode m_M_entity.2.1 11 = .ok (.iload 4, 2) := by decide +kernel
theorem d_M_entity_13 : decode m_M_entity.2.1 13 = .ok (.iload 5, 2) := by decide +kernel
theorem d_M_entity_15 : decode m_M_entity.2.1 15 = .ok (.invokevirtual 92, 3) := by decide +kernel
theorem d_M_entity_18 : decode m_M_entity.2.1 18 = .ok (.ifCond .eq 7, 3) := by decide +kernel
theorem d_M_entity_21 : decode m_M_entity.2.1 21 = .ok (.iconst 0, 1) := by decide +kernel
theorem d_M_entity_22 : decode m_M_entity.2.1 22 = .ok (.goto 4, 3) := by decide +kernel
theorem d_M_entity_25 : decode m_M_entity.2.1 25 = .ok (.iconst 1, 1) := by decide +kernel
theorem d_M_entity_26 : decode m_M_entity.2.1 26 = .ok (.putfield 52, 3) := by decide +kernel
theorem d_M_entity_29 : decode m_M_entity.2.1 29 = .ok (.aload_n 0, 1) := by decide +kernel
theorem d_M_entity_30 : decode m_M_entity.2.1 30 = .ok (.getfield 52, 3) := by decide +kernel
theorem d_M_entity_33 : decode m_M_entity.2.1 33 = .ok (.ifCond .le 5, 3) := by decide +kernel
theorem d_M_entity_36 : decode m_M_entity.2.1 36 = .ok (.iconst 0, 1) := by decide +kernel
theorem d_M_entity_37 : decode m_M_entity.2.1 37 = .ok (.ireturn, 1) := by decide +kernel
theorem d_M_entity_38 : decode m_M_entity.2.1 38 = .ok (.aload_n 0, 1) := by decide +kernel
theorem d_M_entity_39 : decode m_M_entity.2.1 39 = .ok (.aload_n 0, 1) := by decide +kernel
theorem d_M_entity_40 : decode m_M_entity.2.1 40 = .ok (.getfield 7, 3) := by decide +kernel
theorem d_M_entity_43 : decode m_M_entity.2.1 43 = .ok (.iload_n 1, 1) := by decide +kernel
theorem d_M_entity_44 : decode m_M_entity.2.1 44 = .ok (.iaload, 1) := by decide +kernel
theorem d_M_entity_45 : decode m_M_entity.2.1 45 = .ok (.iconst 3, 1) := by decide +kernel
theorem d_M_entity_46 : decode m_M_entity.2.1 46 = .ok (.if_icmp .ne 19, 3) := by decide +kernel
theorem d_M_entity_49 : decode m_M_entity.2.1 49 = .ok (.aload_n 0, 1) := by decide +kernel
theorem d_M_entity_50 : decode m_M_entity.2.1 50 = .ok (.iload_n 2, 1) := by decide +kernel
theorem d_M_entity_51 : decode m_M_entity.2.1 51 = .ok (.invokevirtual 63, 3) := by decide +kernel
theorem d_M_entity_54 : decode m_M_entity.2.1 54 = .ok (.ifCond .eq 7, 3) := by decide +kernel
theorem d_M_entity_57 : decode m_M_entity.2.1 57 = .ok (.iconst 0, 1) := by decide +kernel
theorem d_M_entity_58 : decode m_M_entity.2.1 58 = .ok (.goto 17, 3) := by decide +kernel
theorem d_M_entity_61 : decode m_M_entity.2.1 61 = .ok (.iconst 1, 1) := by decide +kernel
theorem d_M_entity_62 : decode m_M_entity.2.1 62 = .ok (.goto 13, 3) := by decide +kernel
theorem d_M_entity_65 : decode m_M_entity.2.1 65 = .ok (.iload_n 2, 1) := by decide +kernel
theorem d_M_entity_66 : decode m_M_entity.2.1 66 = .ok (.iconst (-1), 1) := by decide +kernel
theorem d_M_entity_67 : decode m_M_entity.2.1 67 = .ok (.if_icmp .ne 7, 3) := by decide +kernel
theorem d_M_entity_70 : decode m_M_entity.2.1 70 = .ok (.iconst 0, 1) := by decide +kernel
theorem d_M_entity_71 : decode m_M_entity.2.1 71 = .ok (.goto 4, 3) := by decide +kernel
theorem d_M_entity_74 : decode m_M_entity.2.1 74 = .ok (.iconst 1, 1) := by decide +kernel
theorem d_M_entity_75 : decode m_M_entity.2.1 75 = .ok (.putfield 52, 3) := by decide +kernel
theorem d_M_entity_78 : decode m_M_entity.2.1 78 = .ok (.aload_n 0, 1) := by decide +kernel
theorem d_M_entity_79 : decode m_M_entity.2.1 79 = .ok (.getfield 52, 3) := by decide +kernel
theorem d_M_entity_82 : decode m_M_entity.2.1 82 = .ok (.ifCond .le 7, 3) := by decide +kernel
theorem d_M_entity_85 : decode m_M_entity.2.1 85 = .ok (.iconst 0, 1) := by decide +kernel
theorem d_M_entity_86 : decode m_M_entity.2.1 86 = .ok (.goto 17, 3) := by decide +kernel
theorem d_M_entity_89 : decode m_M_entity.2.1 89 = .ok (.aload_n 0, 1) := by decide +kernel
theorem d_M_entity_90 : decode m_M_entity.2.1 90 = .ok (.bipush 10, 2) := by decide +kernel
theorem d_M_entity_92 : decode m_M_entity.2.1 92 = .ok (.iconst 0, 1) := by decide +kernel
theorem d_M_entity_93 : decode m_M_entity.2.1 93 = .ok (.iload_n 1, 1) := by decide +kernel
theorem d_M_entity_94 : decode m_M_entity.2.1 94 = .ok (.iload_n 2, 1) := by decide +kernel
theorem d_M_entity_95 : decode m_M_entity.2.1 95 = .ok (.iload_n 3, 1) := by decide +kernel
theorem d_M_entity_96 : decode m_M_entity.2.1 96 = .ok (.iload 4, 2) := by decide +kernel
theorem d_M_entity_98 : decode m_M_entity.2.1 98 = .ok (.iload 5, 2) := by decide +kernel
theorem d_M_entity_100 : decode m_M_entity.2.1 100 = .ok (.invokevirtual 77, 3) := by decide +kernel
theorem d_M_entity_103 : decode m_M_entity.2.1 103 = .ok (.ireturn, 1) := by decide +kernel
theorem d_M_of_0 : decode m_M_of.2.1 0 = .ok (.aload_n 0, 1) := by decide +kernel
theorem d_M_of_1 : decode m_M_of.2.1 1 = .ok (.iconst 0, 1) := by decide +kernel
theorem d_M_of_2 : decode m_M_of.2.1 2 = .ok (.putfield 52, 3) := by decide +kernel
theorem d_M_of_5 : decode m_M_of.2.1 5 = .ok (.aload_n 0, 1) := by decide +kernel
theorem d_M_of_6 : decode m_M_of.2.1 6 = .ok (.iload_n 1, 1) := by decide +kernel
theorem d_M_of_7 : decode m_M_of.2.1 7 = .ok (.invokevirtual 59, 3) := by decide +kernel
theorem d_M_of_10 : decode m_M_of.2.1 10 = .ok (.ifCond .eq 13, 3) := by decide +kernel
theorem d_M_of_13 : decode m_M_of.2.1 13 = .ok (.iload_n 2, 1) := by decide +kernel
theorem d_M_of_14 : decode m_M_of.2.1 14 = .ok (.ifCond .lt 9, 3) := by decide +kernel
theorem d_M_of_17 : decode m_M_of.2.1 17 = .ok (.iload_n 2, 1) := by decide +kernel
theorem d_M_of_18 : decode m_M_of.2.1 18 = .ok (.bipush 7, 2) := by decide +kernel
theorem d_M_of_20 : decode m_M_of.2.1 20 = .ok (.if_icmp .le 5, 3) := by decide +kernel
theorem d_M_of_23 : decode m_M_of.2.1 23 = .ok (.iconst (-1), 1) := by decide +kernel
theorem d_M_of_24 : decode m_M_of.2.1 24 = .ok (.ireturn, 1) := by decide +kernel
theorem d_M_of_25 : decode m_M_of.2.1 25 = .ok (.iload_n 2, 1) := by decide +kernel
theorem d_M_of_26 : decode m_M_of.2.1 26 = .ok (.iconst 4, 1) := by decide +kernel
theorem d_M_of_27 : decode m_M_of.2.1 27 = .ok (.if_icmp .ge 51, 3) := by decide +kernel
theorem d_M_of_30 : decode m_M_of.2.1 30 = .ok (.iload_n 2, 1) := by decide +kernel
theorem d_M_of_31 : decode m_M_of.2.1 31 = .ok (.ifCond .ne 12, 3) := by decide +kernel
theorem d_M_of_34 : decode m_M_of.2.1 34 = .ok (.aload_n 0, 1) := by decide +kernel
theorem d_M_of_35 : decode m_M_of.2.1 35 = .ok (.getfield 7, 3) := by decide +kernel
theorem d_M_of_38 : decode m_M_of.2.1 38 = .ok (.iload_n 1, 1) := by decide +kernel
theorem d_M_of_39 : decode m_M_of.2.1 39 = .ok (.iaload, 1) := by decide +kernel
theorem d_M_of_40 : decode m_M_of.2.1 40 = .ok (.goto 37, 3) := by decide +kernel
theorem d_M_of_43 : decode m_M_of.2.1 43 = .ok (.iload_n 2, 1) := by decide +kernel
theorem d_M_of_44 : decode m_M_of.2.1 44 = .ok (.iconst 1, 1) := by decide +kernel
theorem d_M_of_45 : decode m_M_of.2.1 45 = .ok (.if_icmp .ne 12, 3) := by decide +kernel
theorem d_M_of_48 : decode m_M_of.2.1 48 = .ok (.aload_n 0, 1) := by decide +kernel
theorem d_M_of_49 : decode m_M_of.2.1 49 = .ok (.getfield 13, 3) := by decide +kernel
theorem d_M_of_52 : decode m_M_of.2.1 52 = .ok (.iload_n 1, 1) := by decide +kernel
theorem d_M_of_53 : decode m_M_of.2.1 53 = .ok (.iaload, 1) := by decide +kernel
theorem d_M_of_54 : decode m_M_of.2.1 54 = .ok (.goto 23, 3) := by decide +kernel
theorem d_M_of_57 : decode m_M_of.2.1 57 = .ok (.iload_n 2, 1) := by decide +kernel
theorem d_M_of_58 : decode m_M_of.2.1 58 = .ok (.iconst 2, 1) := by decide +kernel
theorem d_M_of_59 : decode m_M_of.2.1 59 = .ok (.if_icmp .ne 12, 3) := by decide +kernel
theorem d_M_of_62 : decode m_M_of.2.1 62 = .ok (.aload_n 0, 1) := by decide +kernel
theorem d_M_of_63 : decode m_M_of.2.1 63 = .ok (.getfield 16, 3) := by decide +kernel
theorem d_M_of_66 : decode m_M_of.2.1 66 = .ok (.iload_n 1, 1) := by decide +kernel
theorem d_M_of_67 : decode m_M_of.2.1 67 = .ok (.iaload, 1) := by decide +kernel
theorem d_M_of_68 : decode m_M_of.2.1 68 = .ok (.goto 9, 3) := by decide +kernel
theorem d_M_of_71 : decode m_M_of.2.1 71 = .ok (.aload_n 0, 1) := by decide +kernel
theorem d_M_of_72 : decode m_M_of.2.1 72 = .ok (.getfield 19, 3) := by decide +kernel
theorem d_M_of_75 : decode m_M_of.2.1 75 = .ok (.iload_n 1, 1) := by decide +kernel
theorem d_M_of_76 : decode m_M_of.2.1 76 = .ok (.iaload, 1) := by decide +kernel
theorem d_M_of_77 : decode m_M_of.2.1 77 = .ok (.ireturn, 1) := by decide +kernel
theorem d_M_of_78 : decode m_M_of.2.1 78 = .ok (.iload_n 2, 1) := by decide +kernel
theorem d_M_of_79 : decode m_M_of.2.1 79 = .ok (.bipush 7, 2) := by decide +kernel
theorem d_M_of_81 : decode m_M_of.2.1 81 = .ok (.if_icmp .ne 12, 3) := by decide +kernel
theorem d_M_of_84 : decode m_M_of.2.1 84 = .ok (.aload_n 0, 1) := by decide +kernel
theorem d_M_of_85 : decode m_M_of.2.1 85 = .ok (.getfield 25, 3) := by decide +kernel
theorem d_M_of_88 : decode m_M_of.2.1 88 = .ok (.iload_n 1, 1) := by decide +kernel
theorem d_M_of_89 : decode m_M_of.2.1 89 = .ok (.iaload, 1) := by decide +kernel
theorem d_M_of_90 : decode m_M_of.2.1 90 = .ok (.goto 15, 3) := by decide +kernel
theorem d_M_of_93 : decode m_M_of.2.1 93 = .ok (.aload_n 0, 1) := by decide +kernel
theorem d_M_of_94 : decode m_M_of.2.1 94 = .ok (.getfield 22, 3) := by decide +kernel
theorem d_M_of_97 : decode m_M_of.2.1 97 = .ok (.iconst 3, 1) := by decide +kernel
theorem d_M_of_98 : decode m_M_of.2.1 98 = .ok (.iload_n 1, 1) := by decide +kernel
theorem d_M_of_99 : decode m_M_of.2.1 99 = .ok (.imul, 1) := by decide +kernel
theorem d_M_of_100 : decode m_M_of.2.1 100 = .ok (.iload_n 2, 1) := by decide +kernel
theorem d_M_of_101 : decode m_M_of.2.1 101 = .ok (.iadd, 1) := by decide +kernel
theorem d_M_of_102 : decode m_M_of.2.1 102 = .ok (.iconst 4, 1) := by decide +kernel
theorem d_M_of_103 : decode m_M_of.2.1 103 = .ok (.isub, 1) := by decide +kernel
theorem d_M_of_104 : decode m_M_of.2.1 104 = .ok (.iaload, 1) := by decide +kernel
theorem d_M_of_105 : decode m_M_of.2.1 105 = .ok (.ireturn, 1) := by decide +kernel
theorem d_M_write_0 : decode m_M_write.2.1 0 = .ok (.aload_n 0, 1) := by decide +kernel
theorem d_M_write_1 : decode m_M_write.2.1 1 = .ok (.aload_n 0, 1) := by decide +kernel
theorem d_M_write_2 : decode m_M_write.2.1 2 = .ok (.iload_n 1, 1) := by decide +kernel
theorem d_M_write_3 : decode m_M_write.2.1 3 = .ok (.invokevirtual 59, 3) := by decide +kernel
theorem d_M_write_6 : decode m_M_write.2.1 6 = .ok (.ifCond .eq 7, 3) := by decide +kernel
theorem d_M_write_9 : decode m_M_write.2.1 9 = .ok (.iconst 0, 1) := by decide +kernel
theorem d_M_write_10 : decode m_M_write.2.1 10 = .ok (.goto 4, 3) := by decide +kernel
theorem d_M_write_13 : decode m_M_write.2.1 13 = .ok (.iconst 1, 1) := by decide +kernel
theorem d_M_write_14 : decode m_M_write.2.1 14 = .ok (.putfield 52, 3) := by decide +kernel
theorem d_M_write_17 : decode m_M_write.2.1 17 = .ok (.aload_n 0, 1) := by decide +kernel
theorem d_M_write_18 : decode m_M_write.2.1 18 = .ok (.getfield 52, 3) := by decide +kernel
theorem d_M_write_21 : decode m_M_write.2.1 21 = .ok (.ifCond .le 5, 3) := by decide +kernel
theorem d_M_write_24 : decode m_M_write.2.1 24 = .ok (.iconst 0, 1) := by decide +kernel
theorem d_M_write_25 : decode m_M_write.2.1 25 = .ok (.ireturn, 1) := by decide +kernel
theorem d_M_write_26 : decode m_M_write.2.1 26 = .ok (.aload_n 0, 1) := by decide +kernel
theorem d_M_write_27 : decode m_M_write.2.1 27 = .ok (.aload_n 0, 1) := by decide +kernel
theorem d_M_write_28 : decode m_M_write.2.1 28 = .ok (.getfield 7, 3) := by decide +kernel
theorem d_M_write_31 : decode m_M_write.2.1 31 = .ok (.iload_n 1, 1) := by decide +kernel
theorem d_M_write_32 : decode m_M_write.2.1 32 = .ok (.iaload, 1) := by decide +kernel
theorem d_M_write_33 : decode m_M_write.2.1 33 = .ok (.bipush 10, 2) := by decide +kernel
theorem d_M_write_35 : decode m_M_write.2.1 35 = .ok (.if_icmp .ne 7, 3) := by decide +kernel
theorem d_M_write_38 : decode m_M_write.2.1 38 = .ok (.iconst 0, 1) := by decide +kernel
theorem d_M_write_39 : decode m_M_write.2.1 39 = .ok (.goto 4, 3) := by decide +kernel
theorem d_M_write_42 : decode m_M_write.2.1 42 = .ok (.iconst 1, 1) := by decide +kernel
theorem d_M_write_43 : decode m_M_write.2.1 43 = .ok (.putfield 52, 3) := by decide +kernel
theorem d_M_write_46 : decode m_M_write.2.1 46 = .ok (.aload_n 0, 1) := by decide +kernel
theorem d_M_write_47 : decode m_M_write.2.1 47 = .ok (.getfield 52, 3) := by decide +kernel
theorem d_M_write_50 : decode m_M_write.2.1 50 = .ok (.ifCond .le 5, 3) := by decide +kernel
theorem d_M_write_53 : decode m_M_write.2.1 53 = .ok (.iconst 0, 1) := by decide +kernel
theorem d_M_write_54 : decode m_M_write.2.1 54 = .ok (.ireturn, 1) := by decide +kernel
theorem d_M_write_55 : decode m_M_write.2.1 55 = .ok (.aload_n 0, 1) := by decide +kernel
theorem d_M_write_56 : decode m_M_write.2.1 56 = .ok (.iconst 0, 1) := by decide +kernel
theorem d_M_write_57 : decode m_M_write.2.1 57 = .ok (.putfield 102, 3) := by decide +kernel
theorem d_M_write_60 : decode m_M_write.2.1 60 = .ok (.aload_n 0, 1) := by decide +kernel
theorem d_M_write_61 : decode m_M_write.2.1 61 = .ok (.iconst 0, 1) := by decide +kernel
theorem d_M_write_62 : decode m_M_write.2.1 62 = .ok (.putfield 98, 3) := by decide +kernel
theorem d_M_write_65 : decode m_M_write.2.1 65 = .ok (.aload_n 0, 1) := by decide +kernel
theorem d_M_write_66 : decode m_M_write.2.1 66 = .ok (.iconst 0, 1) := by decide +kernel
theorem d_M_write_67 : decode m_M_write.2.1 67 = .ok (.putfield 110, 3) := by decide +kernel
theorem d_M_write_70 : decode m_M_write.2.1 70 = .ok (.aload_n 0, 1) := by decide +kernel
theorem d_M_write_71 : decode m_M_write.2.1 71 = .ok (.iconst 0, 1) := by decide +kernel
theorem d_M_write_72 : decode m_M_write.2.1 72 = .ok (.putfield 120, 3) := by decide +kernel
theorem d_M_write_75 : decode m_M_write.2.1 75 = .ok (.aload_n 0, 1) := by decide +kernel
theorem d_M_write_76 : decode m_M_write.2.1 76 = .ok (.bipush 95, 2) := by decide +kernel
theorem d_M_write_78 : decode m_M_write.2.1 78 = .ok (.invokevirtual 105, 3) := by decide +kernel
theorem d_M_write_81 : decode m_M_write.2.1 81 = .ok (.aload_n 0, 1) := by decide +kernel
theorem d_M_write_82 : decode m_M_write.2.1 82 = .ok (.bipush 90, 2) := by decide +kernel
theorem d_M_write_84 : decode m_M_write.2.1 84 = .ok (.invokevirtual 105, 3) := by decide +kernel
theorem d_M_write_87 : decode m_M_write.2.1 87 = .ok (.aload_n 0, 1) := by decide +kernel
theorem d_M_write_88 : decode m_M_write.2.1 88 = .ok (.bipush 6, 2) := by decide +kernel
theorem d_M_write_90 : decode m_M_write.2.1 90 = .ok (.iload_n 1, 1) := by decide +kernel
theorem d_M_write_91 : decode m_M_write.2.1 91 = .ok (.invokevirtual 123, 3) := by decide +kernel
theorem d_M_write_94 : decode m_M_write.2.1 94 = .ok (.aload_n 0, 1) := by decide +kernel
theorem d_M_write_95 : decode m_M_write.2.1 95 = .ok (.getfield 19, 3) := by decide +kernel
theorem d_M_write_98 : decode m_M_write.2.1 98 = .ok (.iload_n 1, 1) := by decide +kernel
theorem d_M_write_99 : decode m_M_write.2.1 99 = .ok (.iaload, 1) := by decide +kernel
theorem d_M_write_100 : decode m_M_write.2.1 100 = .ok (.ifCond .lt 14, 3) := by decide +kernel
theorem d_M_write_103 : decode m_M_write.2.1 103 = .ok (.aload_n 0, 1) := by decide +kernel
theorem d_M_write_104 : decode m_M_write.2.1 104 = .ok (.iconst 0, 1) := by decide +kernel
theorem d_M_write_105 : decode m_M_write.2.1 105 = .ok (.aload_n 0, 1) := by decide +kernel
theorem d_M_write_106 : decode m_M_write.2.1 106 = .ok (.getfield 19, 3) := by decide +kernel
theorem d_M_write_109 : decode m_M_write.2.1 109 = .ok (.iload_n 1, 1) := by decide +kernel
theorem d_M_write_110 : decode m_M_write.2.1 110 = .ok (.iaload, 1) := by decide +kernel
theorem d_M_write_111 : decode m_M_write.2.1 111 = .ok (.invokevirtual 123, 3) := by decide +kernel
theorem d_M_write_114 : decode m_M_write.2.1 114 = .ok (.aload_n 0, 1) := by decide +kernel
theorem d_M_write_115 : decode m_M_write.2.1 115 = .ok (.aload_n 0, 1) := by decide +kernel
theorem d_M_write_116 : decode m_M_write.2.1 116 = .ok (.getfield 16, 3) := by decide +kernel
theorem d_M_write_119 : decode m_M_write.2.1 119 = .ok (.iload_n 1, 1) := by decide +kernel
theorem d_M_write_120 : decode m_M_write.2.1 120 = .ok (.iaload, 1) := by decide +kernel
theorem d_M_write_121 : decode m_M_write.2.1 121 = .ok (.invokevirtual 151, 3) := by decide +kernel
theorem d_M_write_124 : decode m_M_write.2.1 124 = .ok (.aload_n 0, 1) := by decide +kernel
theorem d_M_write_125 : decode m_M_write.2.1 125 = .ok (.getfield 120, 3) := by decide +kernel
theorem d_M_write_128 : decode m_M_write.2.1 128 = .ok (.ifCond .le 45, 3) := by decide +kernel
theorem d_M_write_131 : decode m_M_write.2.1 131 = .ok (.aload_n 0, 1) := by decide +kernel
theorem d_M_write_132 : decode m_M_write.2.1 132 = .ok (.getfield 98, 3) := by decide +kernel
theorem d_M_write_135 : decode m_M_write.2.1 135 = .ok (.ifCond .ne 38, 3) := by decide +kernel
theorem d_M_write_138 : decode m_M_write.2.1 138 = .ok (.aload_n 0, 1) := by decide +kernel
theorem d_M_write_139 : decode m_M_write.2.1 139 = .ok (.dup, 1) := by decide +kernel
theorem d_M_write_140 : decode m_M_write.2.1 140 = .ok (.getfield 120, 3) := by decide +kernel
theorem d_M_write_143 : decode m_M_write.2.1 143 = .ok (.iconst 1, 1) := by decide +kernel
theorem d_M_write_144 : decode m_M_write.2.1 144 = .ok (.isub, 1) := by decide +kernel
theorem d_M_write_145 : decode m_M_write.2.1 145 = .ok (.putfield 120, 3) := by decide +kernel
theorem d_M_write_148 : decode m_M_write.2.1 148 = .ok (.aload_n 0, 1) := by decide +kernel
theorem d_M_write_149 : decode m_M_write.2.1 149 = .ok (.aload_n 0, 1) := by decide +kernel
theorem d_M_write_150 : decode m_M_write.2.1 150 = .ok (.getfield 40, 3) := by decide +kernel
theorem d_M_write_153 : decode m_M_write.2.1 153 = .ok (.aload_n 0, 1) := by decide +kernel
theorem d_M_write_154 : decode m_M_write.2.1 154 = .ok (.getfield 120, 3) := by decide +kernel
theorem d_M_write_157 : decode m_M_write.2.1 157 = .ok (.iaload, 1) := by decide +kernel
theorem d_M_write_158 : decode m_M_write.2.1 158 = .ok (.aload_n 0, 1) := by decide +kernel
theorem d_M_write_159 : decode m_M_write.2.1 159 = .ok (.getfield 43, 3) := by decide +kernel
theorem d_M_write_162 : decode m_M_write.2.1 162 = .ok (.aload_n 0, 1) := by decide +kernel
theorem d_M_write_163 : decode m_M_write.2.1 163 = .ok (.getfield 120, 3) := by decide +kernel
theorem d_M_write_166 : decode m_M_write.2.1 166 = .ok (.iaload, 1) := by decide +kernel
theorem d_M_write_167 : decode m_M_write.2.1 167 = .ok (.invokevirtual 154, 3) := by decide +kernel
theorem d_M_write_170 : decode m_M_write.2.1 170 = .ok (.goto (-46), 3) := by decide +kernel
theorem d_M_write_173 : decode m_M_write.2.1 173 = .ok (.aload_n 0, 1) := by decide +kernel
theorem d_M_write_174 : decode m_M_write.2.1 174 = .ok (.aload_n 0, 1) := by decide +kernel
theorem d_M_write_175 : decode m_M_write.2.1 175 = .ok (.getfield 98, 3) := by decide +kernel
theorem d_M_write_178 : decode m_M_write.2.1 178 = .ok (.ifCond .eq 7, 3) := by decide +kernel
theorem d_M_write_181 : decode m_M_write.2.1 181 = .ok (.iconst 2, 1) := by decide +kernel
theorem d_M_write_182 : decode m_M_write.2.1 182 = .ok (.goto 4, 3) := by decide +kernel
theorem d_M_write_185 : decode m_M_write.2.1 185 = .ok (.iconst 0, 1) := by decide +kernel
theorem d_M_write_186 : decode m_M_write.2.1 186 = .ok (.putfield 52, 3) := by decide +kernel
theorem d_M_write_189 : decode m_M_write.2.1 189 = .ok (.aload_n 0, 1) := by decide +kernel
theorem d_M_write_190 : decode m_M_write.2.1 190 = .ok (.getfield 52, 3) := by decide +kernel
theorem d_M_write_193 : decode m_M_write.2.1 193 = .ok (.ifCond .le 5, 3) := by decide +kernel
theorem d_M_write_196 : decode m_M_write.2.1 196 = .ok (.iconst 0, 1) := by decide +kernel
theorem d_M_write_197 : decode m_M_write.2.1 197 = .ok (.ireturn, 1) := by decide +kernel
theorem d_M_write_198 : decode m_M_write.2.1 198 = .ok (.aload_n 0, 1) := by decide +kernel
theorem d_M_write_199 : decode m_M_write.2.1 199 = .ok (.aload_n 0, 1) := by decide +kernel
theorem d_M_write_200 : decode m_M_write.2.1 200 = .ok (.getfield 102, 3) := by decide +kernel
theorem d_M_write_203 : decode m_M_write.2.1 203 = .ok (.putfield 157, 3) := by decide +kernel
theorem d_M_write_206 : decode m_M_write.2.1 206 = .ok (.iconst 0, 1) := by decide +kernel
theorem d_M_write_207 : decode m_M_write.2.1 207 = .ok (.istore_n 2, 1) := by decide +kernel
theorem d_M_write_208 : decode m_M_write.2.1 208 = .ok (.iload_n 2, 1) := by decide +kernel
theorem d_M_write_209 : decode m_M_write.2.1 209 = .ok (.aload_n 0, 1) := by decide +kernel
theorem d_M_write_210 : decode m_M_write.2.1 210 = .ok (.getfield 102, 3) := by decide +kernel
theorem d_M_write_213 : decode m_M_write.2.1 213 = .ok (.if_icmp .ge 21, 3) := by decide +kernel
theorem d_M_write_216 : decode m_M_write.2.1 216 = .ok (.aload_n 0, 1) := by decide +kernel
theorem d_M_write_217 : decode m_M_write.2.1 217 = .ok (.getfield 28, 3) := by decide +kernel
theorem d_M_write_220 : decode m_M_write.2.1 220 = .ok (.iload_n 2, 1) := by decide +kernel
theorem d_M_write_221 : decode m_M_write.2.1 221 = .ok (.aload_n 0, 1) := by decide +kernel
theorem d_M_write_222 : decode m_M_write.2.1 222 = .ok (.getfield 31, 3) := by decide +kernel
theorem d_M_write_225 : decode m_M_write.2.1 225 = .ok (.iload_n 2, 1) := by decide +kernel
theorem d_M_write_226 : decode m_M_write.2.1 226 = .ok (.iaload, 1) := by decide +kernel
theorem d_M_write_227 : decode m_M_write.2.1 227 = .ok (.iastore, 1) := by decide +kernel
theorem d_M_write_228 : decode m_M_write.2.1 228 = .ok (.iinc 2 1, 3) := by decide +kernel
theorem d_M_write_231 : decode m_M_write.2.1 231 = .ok (.goto (-23), 3) := by decide +kernel
theorem d_M_write_234 : decode m_M_write.2.1 234 = .ok (.aload_n 0, 1) := by decide +kernel
theorem d_M_write_235 : decode m_M_write.2.1 235 = .ok (.invokevirtual 160, 3) := by decide +kernel
theorem d_M_write_238 : decode m_M_write.2.1 238 = .ok (.aload_n 0, 1) := by decide +kernel
theorem d_M_write_239 : decode m_M_write.2.1 239 = .ok (.getfield 157, 3) := by decide +kernel
theorem d_M_write_242 : decode m_M_write.2.1 242 = .ok (.ireturn, 1) := by decide +kernel
theorem d_M_emit_0 : decode m_M_emit.2.1 0 = .ok (.aload_n 0, 1) := by decide +kernel
theorem d_M_emit_1 : decode m_M_emit.2.1 1 = .ok (.aload_n 0, 1) := by decide +kernel
theorem d_M_emit_2 : decode m_M_emit.2.1 2 = .ok (.getfield 98, 3) := by decide +kernel
theorem d_M_emit_5 : decode m_M_emit.2.1 5 = .ok (.ifCond .ne 12, 3) := by decide +kernel
theorem d_M_emit_8 : decode m_M_emit.2.1 8 = .ok (.aload_n 0, 1) := by decide +kernel
theorem d_M_emit_9 : decode m_M_emit.2.1 9 = .ok (.getfield 102, 3) := by decide +kernel
theorem d_M_emit_12 : decode m_M_emit.2.1 12 = .ok (.bipush 120, 2) := by decide +kernel
theorem d_M_emit_14 : decode m_M_emit.2.1 14 = .ok (.if_icmp .ne 7, 3) := by decide +kernel
theorem d_M_emit_17 : decode m_M_emit.2.1 17 = .ok (.iconst 1, 1) := by decide +kernel
theorem d_M_emit_18 : decode m_M_emit.2.1 18 = .ok (.goto 4, 3) := by decide +kernel
theorem d_M_emit_21 : decode m_M_emit.2.1 21 = .ok (.iconst 0, 1) := by decide +kernel
theorem d_M_emit_22 : decode m_M_emit.2.1 22 = .ok (.putfield 98, 3) := by decide +kernel
theorem d_M_emit_25 : decode m_M_emit.2.1 25 = .ok (.aload_n 0, 1) := by decide +kernel
theorem d_M_emit_26 : decode m_M_emit.2.1 26 = .ok (.getfield 98, 3) := by decide +kernel
theorem d_M_emit_29 : decode m_M_emit.2.1 29 = .ok (.ifCond .ne 23, 3) := by decide +kernel
theorem d_M_emit_32 : decode m_M_emit.2.1 32 = .ok (.aload_n 0, 1) := by decide +kernel
theorem d_M_emit_33 : decode m_M_emit.2.1 33 = .ok (.getfield 31, 3) := by decide +kernel
theorem d_M_emit_36 : decode m_M_emit.2.1 36 = .ok (.aload_n 0, 1) := by decide +kernel
theorem d_M_emit_37 : decode m_M_emit.2.1 37 = .ok (.getfield 102, 3) := by decide +kernel
theorem d_M_emit_40 : decode m_M_emit.2.1 40 = .ok (.iload_n 1, 1) := by decide +kernel
theorem d_M_emit_41 : decode m_M_emit.2.1 41 = .ok (.iastore, 1) := by decide +kernel
theorem d_M_emit_42 : decode m_M_emit.2.1 42 = .ok (.aload_n 0, 1) := by decide +kernel
theorem d_M_emit_43 : decode m_M_emit.2.1 43 = .ok (.dup, 1) := by decide +kernel
theorem d_M_emit_44 : decode m_M_emit.2.1 44 = .ok (.getfield 102, 3) := by decide +kernel
theorem d_M_emit_47 : decode m_M_emit.2.1 47 = .ok (.iconst 1, 1) := by decide +kernel
theorem d_M_emit_48 : decode m_M_emit.2.1 48 = .ok (.iadd, 1) := by decide +kernel
theorem d_M_emit_49 : decode m_M_emit.2.1 49 = .ok (.putfield 102, 3) := by decide +kernel
theorem d_M_emit_52 : decode m_M_emit.2.1 52 = .ok (.return_, 1) := by decide +kernel
theorem d_M_push_0 : decode m_M_push.2.1 0 = .ok (.aload_n 0, 1) := by decide +kernel
theorem d_M_push_1 : decode m_M_push.2.1 1 = .ok (.getfield 40, 3) := by decide +kernel
theorem d_M_push_4 : decode m_M_push.2.1 4 = .ok (.aload_n 0, 1) := by decide +kernel
theorem d_M_push_5 : decode m_M_push.2.1 5 = .ok (.getfield 120, 3) := by decide +kernel
theorem d_M_push_8 : decode m_M_push.2.1 8 = .ok (.iload_n 1, 1) := by decide +kernel
theorem d_M_push_9 : decode m_M_push.2.1 9 = .ok (.iastore, 1) := by decide +kernel
theorem d_M_push_10 : decode m_M_push.2.1 10 = .ok (.aload_n 0, 1) := by decide +kernel
theorem d_M_push_11 : decode m_M_push.2.1 11 = .ok (.getfield 43, 3) := by decide +kernel
theorem d_M_push_14 : decode m_M_push.2.1 14 = .ok (.aload_n 0, 1) := by decide +kernel
theorem d_M_push_15 : decode m_M_push.2.1 15 = .ok (.getfield 120, 3) := by decide +kernel
theorem d_M_push_18 : decode m_M_push.2.1 18 = .ok (.iload_n 2, 1) := by decide +kernel
theorem d_M_push_19 : decode m_M_push.2.1 19 = .ok (.iastore, 1) := by decide +kernel
theorem d_M_push_20 : decode m_M_push.2.1 20 = .ok (.aload_n 0, 1) := by decide +kernel
theorem d_M_push_21 : decode m_M_push.2.1 21 = .ok (.dup, 1) := by decide +kernel
theorem d_M_push_22 : decode m_M_push.2.1 22 = .ok (.getfield 120, 3) := by decide +kernel
theorem d_M_push_25 : decode m_M_push.2.1 25 = .ok (.iconst 1, 1) := by decide +kernel
theorem d_M_push_26 : decode m_M_push.2.1 26 = .ok (.iadd, 1) := by decide +kernel
theorem d_M_push_27 : decode m_M_push.2.1 27 = .ok (.putfield 120, 3) := by decide +kernel
theorem d_M_push_30 : decode m_M_push.2.1 30 = .ok (.return_, 1) := by decide +kernel
theorem d_M_plain_0 : decode m_M_plain.2.1 0 = .ok (.aload_n 0, 1) := by decide +kernel
theorem d_M_plain_1 : decode m_M_plain.2.1 1 = .ok (.getfield 7, 3) := by decide +kernel
theorem d_M_plain_4 : decode m_M_plain.2.1 4 = .ok (.iload_n 1, 1) := by decide +kernel
theorem d_M_plain_5 : decode m_M_plain.2.1 5 = .ok (.iaload, 1) := by decide +kernel
theorem d_M_plain_6 : decode m_M_plain.2.1 6 = .ok (.istore_n 2, 1) := by decide +kernel
theorem d_M_plain_7 : decode m_M_plain.2.1 7 = .ok (.iload_n 2, 1) := by decide +kernel
theorem d_M_plain_8 : decode m_M_plain.2.1 8 = .ok (.iconst 1, 1) := by decide +kernel
theorem d_M_plain_9 : decode m_M_plain.2.1 9 = .ok (.if_icmp .ne 16, 3) := by decide +kernel
theorem d_M_plain_12 : decode m_M_plain.2.1 12 = .ok (.aload_n 0, 1) := by decide +kernel
theorem d_M_plain_13 : decode m_M_plain.2.1 13 = .ok (.aload_n 0, 1) := by decide +kernel
theorem d_M_plain_14 : decode m_M_plain.2.1 14 = .ok (.getfield 13, 3) := by decide +kernel
theorem d_M_plain_17 : decode m_M_plain.2.1 17 = .ok (.iload_n 1, 1) := by decide +kernel
theorem d_M_plain_18 : decode m_M_plain.2.1 18 = .ok (.iaload, 1) := by decide +kernel
theorem d_M_plain_19 : decode m_M_plain.2.1 19 = .ok (.invokevirtual 133, 3) := by decide +kernel
theorem d_M_plain_22 : decode m_M_plain.2.1 22 = .ok (.goto 223, 3) := by decide +kernel
theorem d_M_plain_25 : decode m_M_plain.2.1 25 = .ok (.iload_n 2, 1) := by decide +kernel
theorem d_M_plain_26 : decode m_M_plain.2.1 26 = .ok (.iconst 2, 1) := by decide +kernel
theorem d_M_plain_27 : decode m_M_plain.2.1 27 = .ok (.if_icmp .ne 36, 3) := by decide +kernel
theorem d_M_plain_30 : decode m_M_plain.2.1 30 = .ok (.aload_n 0, 1) := by decide +kernel
theorem d_M_plain_31 : decode m_M_plain.2.1 31 = .ok (.bipush 78, 2) := by decide +kernel
theorem d_M_plain_33 : decode m_M_plain.2.1 33 = .ok (.invokevirtual 105, 3) := by decide +kernel
theorem d_M_plain_36 : decode m_M_plain.2.1 36 = .ok (.aload_n 0, 1) := by decide +kernel
theorem d_M_plain_37 : decode m_M_plain.2.1 37 = .ok (.iconst 5, 1) := by decide +kernel
theorem d_M_plain_38 : decode m_M_plain.2.1 38 = .ok (.bipush 69, 2) := by decide +kernel
theorem d_M_plain_40 : decode m_M_plain.2.1 40 = .ok (.invokevirtual 123, 3) := by decide +kernel
theorem d_M_plain_43 : decode m_M_plain.2.1 43 = .ok (.aload_n 0, 1) := by decide +kernel
theorem d_M_plain_44 : decode m_M_plain.2.1 44 = .ok (.iconst 3, 1) := by decide +kernel
theorem d_M_plain_45 : decode m_M_plain.2.1 45 = .ok (.iload_n 1, 1) := by decide +kernel
theorem d_M_plain_46 : decode m_M_plain.2.1 46 = .ok (.invokevirtual 123, 3) := by decide +kernel
theorem d_M_plain_49 : decode m_M_plain.2.1 49 = .ok (.aload_n 0, 1) := by decide +kernel
theorem d_M_plain_50 : decode m_M_plain.2.1 50 = .ok (.iconst 1, 1) := by decide +kernel
theorem d_M_plain_51 : decode m_M_plain.2.1 51 = .ok (.aload_n 0, 1) := by decide +kernel
theorem d_M_plain_52 : decode m_M_plain.2.1 52 = .ok (.getfield 16, 3) := by decide +kernel
theorem d_M_plain_55 : decode m_M_plain.2.1 55 = .ok (.iload_n 1, 1) := by decide +kernel
theorem d_M_plain_56 : decode m_M_plain.2.1 56 = .ok (.iaload, 1) := by decide +kernel
theorem d_M_plain_57 : decode m_M_plain.2.1 57 = .ok (.invokevirtual 123, 3) := by decide +kernel
theorem d_M_plain_60 : decode m_M_plain.2.1 60 = .ok (.goto 185, 3) := by decide +kernel
theorem d_M_plain_63 : decode m_M_plain.2.1 63 = .ok (.iload_n 2, 1) := by decide +kernel
theorem d_M_plain_64 : decode m_M_plain.2.1 64 = .ok (.iconst 3, 1) := by decide +kernel
theorem d_M_plain_65 : decode m_M_plain.2.1 65 = .ok (.if_icmp .ne 61, 3) := by decide +kernel
theorem d_M_plain_68 : decode m_M_plain.2.1 68 = .ok (.aload_n 0, 1) := by decide +kernel
theorem d_M_plain_69 : decode m_M_plain.2.1 69 = .ok (.getfield 7, 3) := by decide +kernel
theorem d_M_plain_72 : decode m_M_plain.2.1 72 = .ok (.aload_n 0, 1) := by decide +kernel
theorem d_M_plain_73 : decode m_M_plain.2.1 73 = .ok (.getfield 16, 3) := by decide +kernel
theorem d_M_plain_76 : decode m_M_plain.2.1 76 = .ok (.iload_n 1, 1) := by decide +kernel
theorem d_M_plain_77 : decode m_M_plain.2.1 77 = .ok (.iaload, 1) := by decide +kernel
theorem d_M_plain_78 : decode m_M_plain.2.1 78 = .ok (.iaload, 1) := by decide +kernel
theorem d_M_plain_79 : decode m_M_plain.2.1 79 = .ok (.iconst 2, 1) := by decide +kernel
theorem d_M_plain_80 : decode m_M_plain.2.1 80 = .ok (.if_icmp .ne 7, 3) := by decide +kernel
theorem d_M_plain_83 : decode m_M_plain.2.1 83 = .ok (.iconst 1, 1) := by decide +kernel
theorem d_M_plain_84 : decode m_M_plain.2.1 84 = .ok (.goto 4, 3) := by decide +kernel
theorem d_M_plain_87 : decode m_M_plain.2.1 87 = .ok (.iconst 0, 1) := by decide +kernel
theorem d_M_plain_88 : decode m_M_plain.2.1 88 = .ok (.istore_n 3, 1) := by decide +kernel
theorem d_M_plain_89 : decode m_M_plain.2.1 89 = .ok (.iload_n 3, 1) := by decide +kernel
theorem d_M_plain_90 : decode m_M_plain.2.1 90 = .ok (.ifCond .eq 16, 3) := by decide +kernel
theorem d_M_plain_93 : decode m_M_plain.2.1 93 = .ok (.aload_n 0, 1) := by decide +kernel
theorem d_M_plain_94 : decode m_M_plain.2.1 94 = .ok (.bipush 78, 2) := by decide +kernel
theorem d_M_plain_96 : decode m_M_plain.2.1 96 = .ok (.invokevirtual 105, 3) := by decide +kernel
theorem d_M_plain_99 : decode m_M_plain.2.1 99 = .ok (.aload_n 0, 1) := by decide +kernel
theorem d_M_plain_100 : decode m_M_plain.2.1 100 = .ok (.iconst 5, 1) := by decide +kernel
theorem d_M_plain_101 : decode m_M_plain.2.1 101 = .ok (.bipush 69, 2) := by decide +kernel
theorem d_M_plain_103 : decode m_M_plain.2.1 103 = .ok (.invokevirtual 123, 3) := by decide +kernel
theorem d_M_plain_106 : decode m_M_plain.2.1 106 = .ok (.aload_n 0, 1) := by decide +kernel
theorem d_M_plain_107 : decode m_M_plain.2.1 107 = .ok (.iconst 4, 1) := by decide +kernel
theorem d_M_plain_108 : decode m_M_plain.2.1 108 = .ok (.iload_n 1, 1) := by decide +kernel
theorem d_M_plain_109 : decode m_M_plain.2.1 109 = .ok (.invokevirtual 123, 3) := by decide +kernel
theorem d_M_plain_112 : decode m_M_plain.2.1 112 = .ok (.aload_n 0, 1) := by decide +kernel
theorem d_M_plain_113 : decode m_M_plain.2.1 113 = .ok (.iconst 1, 1) := by decide +kernel
theorem d_M_plain_114 : decode m_M_plain.2.1 114 = .ok (.aload_n 0, 1) := by decide +kernel
theorem d_M_plain_115 : decode m_M_plain.2.1 115 = .ok (.getfield 16, 3) := by decide +kernel
theorem d_M_plain_118 : decode m_M_plain.2.1 118 = .ok (.iload_n 1, 1) := by decide +kernel
theorem d_M_plain_119 : decode m_M_plain.2.1 119 = .ok (.iaload, 1) := by decide +kernel
theorem d_M_plain_120 : decode m_M_plain.2.1 120 = .ok (.invokevirtual 123, 3) := by decide +kernel
theorem d_M_plain_123 : decode m_M_plain.2.1 123 = .ok (.goto 122, 3) := by decide +kernel
theorem d_M_plain_126 : decode m_M_plain.2.1 126 = .ok (.iload_n 2, 1) := by decide +kernel
theorem d_M_plain_127 : decode m_M_plain.2.1 127 = .ok (.bipush 8, 2) := by decide +kernel
theorem d_M_plain_129 : decode m_M_plain.2.1 129 = .ok (.if_icmp .ne 37, 3) := by decide +kernel
theorem d_M_plain_132 : decode m_M_plain.2.1 132 = .ok (.aload_n 0, 1) := by decide +kernel
theorem d_M_plain_133 : decode m_M_plain.2.1 133 = .ok (.bipush 70, 2) := by decide +kernel
theorem d_M_plain_135 : decode m_M_plain.2.1 135 = .ok (.invokevirtual 105, 3) := by decide +kernel
theorem d_M_plain_138 : decode m_M_plain.2.1 138 = .ok (.aload_n 0, 1) := by decide +kernel
theorem d_M_plain_139 : decode m_M_plain.2.1 139 = .ok (.iconst 5, 1) := by decide +kernel
theorem d_M_plain_140 : decode m_M_plain.2.1 140 = .ok (.bipush 69, 2) := by decide +kernel
theorem d_M_plain_142 : decode m_M_plain.2.1 142 = .ok (.invokevirtual 123, 3) := by decide +kernel
theorem d_M_plain_145 : decode m_M_plain.2.1 145 = .ok (.aload_n 0, 1) := by decide +kernel
theorem d_M_plain_146 : decode m_M_plain.2.1 146 = .ok (.bipush 6, 2) := by decide +kernel
theorem d_M_plain_148 : decode m_M_plain.2.1 148 = .ok (.iload_n 1, 1) := by decide +kernel
theorem d_M_plain_149 : decode m_M_plain.2.1 149 = .ok (.invokevirtual 123, 3) := by decide +kernel
theorem d_M_plain_152 : decode m_M_plain.2.1 152 = .ok (.aload_n 0, 1) := by decide +kernel
theorem d_M_plain_153 : decode m_M_plain.2.1 153 = .ok (.iconst 0, 1) := by decide +kernel
theorem d_M_plain_154 : decode m_M_plain.2.1 154 = .ok (.aload_n 0, 1) := by decide +kernel
theorem d_M_plain_155 : decode m_M_plain.2.1 155 = .ok (.getfield 16, 3) := by decide +kernel
theorem d_M_plain_158 : decode m_M_plain.2.1 158 = .ok (.iload_n 1, 1) := by decide +kernel
theorem d_M_plain_159 : decode m_M_plain.2.1 159 = .ok (.iaload, 1) := by decide +kernel
theorem d_M_plain_160 : decode m_M_plain.2.1 160 = .ok (.invokevirtual 123, 3) := by decide +kernel
theorem d_M_plain_163 : decode m_M_plain.2.1 163 = .ok (.goto 82, 3) := by decide +kernel
theorem d_M_plain_166 : decode m_M_plain.2.1 166 = .ok (.iload_n 2, 1) := by decide +kernel
theorem d_M_plain_167 : decode m_M_plain.2.1 167 = .ok (.bipush 7, 2) := by decide +kernel
theorem d_M_plain_169 : decode m_M_plain.2.1 169 = .ok (.if_icmp .ne 39, 3) := by decide +kernel
theorem d_M_plain_172 : decode m_M_plain.2.1 172 = .ok (.aload_n 0, 1) := by decide +kernel
theorem d_M_plain_173 : decode m_M_plain.2.1 173 = .ok (.bipush 65, 2) := by decide +kernel
theorem d_M_plain_175 : decode m_M_plain.2.1 175 = .ok (.invokevirtual 105, 3) := by decide +kernel
theorem d_M_plain_178 : decode m_M_plain.2.1 178 = .ok (.aload_n 0, 1) := by decide +kernel
theorem d_M_plain_179 : decode m_M_plain.2.1 179 = .ok (.aload_n 0, 1) := by decide +kernel
theorem d_M_plain_180 : decode m_M_plain.2.1 180 = .ok (.getfield 13, 3) := by decide +kernel
theorem d_M_plain_183 : decode m_M_plain.2.1 183 = .ok (.iload_n 1, 1) := by decide +kernel
theorem d_M_plain_184 : decode m_M_plain.2.1 184 = .ok (.iaload, 1) := by decide +kernel
theorem d_M_plain_185 : decode m_M_plain.2.1 185 = .ok (.invokevirtual 130, 3) := by decide +kernel
theorem d_M_plain_188 : decode m_M_plain.2.1 188 = .ok (.aload_n 0, 1) := by decide +kernel
theorem d_M_plain_189 : decode m_M_plain.2.1 189 = .ok (.bipush 95, 2) := by decide +kernel
theorem d_M_plain_191 : decode m_M_plain.2.1 191 = .ok (.invokevirtual 105, 3) := by decide +kernel
theorem d_M_plain_194 : decode m_M_plain.2.1 194 = .ok (.aload_n 0, 1) := by decide +kernel
theorem d_M_plain_195 : decode m_M_plain.2.1 195 = .ok (.iconst 0, 1) := by decide +kernel
theorem d_M_plain_196 : decode m_M_plain.2.1 196 = .ok (.aload_n 0, 1) := by decide +kernel
theorem d_M_plain_197 : decode m_M_plain.2.1 197 = .ok (.getfield 16, 3) := by decide +kernel
theorem d_M_plain_200 : decode m_M_plain.2.1 200 = .ok (.iload_n 1, 1) := by decide +kernel
theorem d_M_plain_201 : decode m_M_plain.2.1 201 = .ok (.iaload, 1) := by decide +kernel
theorem d_M_plain_202 : decode m_M_plain.2.1 202 = .ok (.invokevirtual 123, 3) := by decide +kernel
theorem d_M_plain_205 : decode m_M_plain.2.1 205 = .ok (.goto 40, 3) := by decide +kernel
theorem d_M_plain_208 : decode m_M_plain.2.1 208 = .ok (.aload_n 0, 1) := by decide +kernel
theorem d_M_plain_209 : decode m_M_plain.2.1 209 = .ok (.iload_n 2, 1) := by decide +kernel
theorem d_M_plain_210 : decode m_M_plain.2.1 210 = .ok (.iconst 4, 1) := by decide +kernel
theorem d_M_plain_211 : decode m_M_plain.2.1 211 = .ok (.if_icmp .ne 8, 3) := by decide +kernel
theorem d_M_plain_214 : decode m_M_plain.2.1 214 = .ok (.bipush 80, 2) := by decide +kernel
theorem d_M_plain_216 : decode m_M_plain.2.1 216 = .ok (.goto 15, 3) := by decide +kernel
theorem d_M_plain_219 : decode m_M_plain.2.1 219 = .ok (.iload_n 2, 1) := by decide +kernel
theorem d_M_plain_220 : decode m_M_plain.2.1 220 = .ok (.iconst 5, 1) := by decide +kernel
theorem d_M_plain_221 : decode m_M_plain.2.1 221 = .ok (.if_icmp .ne 8, 3) := by decide +kernel
theorem d_M_plain_224 : decode m_M_plain.2.1 224 = .ok (.bipush 82, 2) := by decide +kernel
theorem d_M_plain_226 : decode m_M_plain.2.1 226 = .ok (.goto 5, 3) := by decide +kernel
theorem d_M_plain_229 : decode m_M_plain.2.1 229 = .ok (.bipush 75, 2) := by decide +kernel
theorem d_M_plain_231 : decode m_M_plain.2.1 231 = .ok (.invokevirtual 105, 3) := by decide +kernel
theorem d_M_plain_234 : decode m_M_plain.2.1 234 = .ok (.aload_n 0, 1) := by decide +kernel
theorem d_M_plain_235 : decode m_M_plain.2.1 235 = .ok (.iconst 0, 1) := by decide +kernel
theorem d_M_plain_236 : decode m_M_plain.2.1 236 = .ok (.aload_n 0, 1) := by decide +kernel
theorem d_M_plain_237 : decode m_M_plain.2.1 237 = .ok (.getfield 16, 3) := by decide +kernel
theorem d_M_plain_240 : decode m_M_plain.2.1 240 = .ok (.iload_n 1, 1) := by decide +kernel
theorem d_M_plain_241 : decode m_M_plain.2.1 241 = .ok (.iaload, 1) := by decide +kernel
theorem d_M_plain_242 : decode m_M_plain.2.1 242 = .ok (.invokevirtual 123, 3) := by decide +kernel
theorem d_M_plain_245 : decode m_M_plain.2.1 245 = .ok (.return_, 1) := by decide +kernel
theorem d_M_emitId_0 : decode m_M_emitId.2.1 0 = .ok (.aload_n 0, 1) := by decide +kernel
theorem d_M_emitId_1 : decode m_M_emitId.2.1 1 = .ok (.iload_n 1, 1) := by decide +kernel
theorem d_M_emitId_2 : decode m_M_emitId.2.1 2 = .ok (.ldc 109, 2) := by decide +kernel
theorem d_M_emitId_4 : decode m_M_emitId.2.1 4 = .ok (.if_icmp .le 8, 3) := by decide +kernel
theorem d_M_emitId_7 : decode m_M_emitId.2.1 7 = .ok (.bipush 51, 2) := by decide +kernel
theorem d_M_emitId_9 : decode m_M_emitId.2.1 9 = .ok (.goto 17, 3) := by decide +kernel
theorem d_M_emitId_12 : decode m_M_emitId.2.1 12 = .ok (.iload_n 1, 1) := by decide +kernel
theorem d_M_emitId_13 : decode m_M_emitId.2.1 13 = .ok (.sipush 255, 3) := by decide +kernel
theorem d_M_emitId_16 : decode m_M_emitId.2.1 16 = .ok (.if_icmp .le 8, 3) := by decide +kernel
theorem d_M_emitId_19 : decode m_M_emitId.2.1 19 = .ok (.bipush 50, 2) := by decide +kernel
theorem d_M_emitId_21 : decode m_M_emitId.2.1 21 = .ok (.goto 5, 3) := by decide +kernel
theorem d_M_emitId_24 : decode m_M_emitId.2.1 24 = .ok (.bipush 49, 2) := by decide +kernel
theorem d_M_emitId_26 : decode m_M_emitId.2.1 26 = .ok (.invokevirtual 105, 3) := by decide +kernel
theorem d_M_emitId_29 : decode m_M_emitId.2.1 29 = .ok (.iconst 2, 1) := by decide +kernel
theorem d_M_emitId_30 : decode m_M_emitId.2.1 30 = .ok (.istore_n 2, 1) := by decide +kernel
theorem d_M_emitId_31 : decode m_M_emitId.2.1 31 = .ok (.iload_n 2, 1) := by decide +kernel
theorem d_M_emitId_32 : decode m_M_emitId.2.1 32 = .ok (.ifCond .lt 29, 3) := by decide +kernel
theorem d_M_emitId_35 : decode m_M_emitId.2.1 35 = .ok (.iload_n 1, 1) := by decide +kernel
theorem d_M_emitId_36 : decode m_M_emitId.2.1 36 = .ok (.bipush 8, 2) := by decide +kernel
theorem d_M_emitId_38 : decode m_M_emitId.2.1 38 = .ok (.iload_n 2, 1) := by decide +kernel
theorem d_M_emitId_39 : decode m_M_emitId.2.1 39 = .ok (.imul, 1) := by decide +kernel
theorem d_M_emitId_40 : decode m_M_emitId.2.1 40 = .ok (.ishr, 1) := by decide +kernel
theorem d_M_emitId_41 : decode m_M_emitId.2.1 41 = .ok (.sipush 255, 3) := by decide +kernel
theorem d_M_emitId_44 : decode m_M_emitId.2.1 44 = .ok (.iand, 1) := by decide +kernel
theorem d_M_emitId_45 : decode m_M_emitId.2.1 45 = .ok (.istore_n 3, 1) := by decide +kernel
theorem d_M_emitId_46 : decode m_M_emitId.2.1 46 = .ok (.iload_n 3, 1) := by decide +kernel
theorem d_M_emitId_47 : decode m_M_emitId.2.1 47 = .ok (.ifCond .eq 8, 3) := by decide +kernel
theorem d_M_emitId_50 : decode m_M_emitId.2.1 50 = .ok (.aload_n 0, 1) := by decide +kernel
theorem d_M_emitId_51 : decode m_M_emitId.2.1 51 = .ok (.iload_n 3, 1) := by decide +kernel
theorem d_M_emitId_52 : decode m_M_emitId.2.1 52 = .ok (.invokevirtual 105, 3) := by decide +kernel
theorem d_M_emitId_55 : decode m_M_emitId.2.1 55 = .ok (.iinc 2 (-1), 3) := by decide +kernel
theorem d_M_emitId_58 : decode m_M_emitId.2.1 58 = .ok (.goto (-27), 3) := by decide +kernel
theorem d_M_emitId_61 : decode m_M_emitId.2.1 61 = .ok (.return_, 1) := by decide +kernel
theorem d_M_emitNumber_0 : decode m_M_emitNumber.2.1 0 = .ok (.iconst 1, 1) := by decide +kernel
theorem d_M_emitNumber_1 : decode m_M_emitNumber.2.1 1 = .ok (.istore_n 2, 1) := by decide +kernel
theorem d_M_emitNumber_2 : decode m_M_emitNumber.2.1 2 = .ok (.iload_n 1, 1) := by decide +kernel
theorem d_M_emitNumber_3 : decode m_M_emitNumber.2.1 3 = .ok (.iload_n 2, 1) := by decide +kernel
theorem d_M_emitNumber_4 : decode m_M_emitNumber.2.1 4 = .ok (.idiv, 1) := by decide +kernel
theorem d_M_emitNumber_5 : decode m_M_emitNumber.2.1 5 = .ok (.bipush 9, 2) := by decide +kernel
theorem d_M_emitNumber_7 : decode m_M_emitNumber.2.1 7 = .ok (.if_icmp .le 11, 3) := by decide +kernel
theorem d_M_emitNumber_10 : decode m_M_emitNumber.2.1 10 = .ok (.bipush 10, 2) := by decide +kernel
theorem d_M_emitNumber_12 : decode m_M_emitNumber.2.1 12 = .ok (.iload_n 2, 1) := by decide +kernel
theorem d_M_emitNumber_13 : decode m_M_emitNumber.2.1 13 = .ok (.imul, 1) := by decide +kernel
theorem d_M_emitNumber_14 : decode m_M_emitNumber.2.1 14 = .ok (.istore_n 2, 1) := by decide +kernel
theorem d_M_emitNumber_15 : decode m_M_emitNumber.2.1 15 = .ok (.goto (-13), 3) := by decide +kernel
theorem d_M_emitNumber_18 : decode m_M_emitNumber.2.1 18 = .ok (.iload_n 2, 1) := by decide +kernel
theorem d_M_emitNumber_19 : decode m_M_emitNumber.2.1 19 = .ok (.istore_n 3, 1) := by decide +kernel
theorem d_M_emitNumber_20 : decode m_M_emitNumber.2.1 20 = .ok (.iload_n 3, 1) := by decide +kernel
theorem d_M_emitNumber_21 : decode m_M_emitNumber.2.1 21 = .ok (.ifCond .le 24, 3) := by decide +kernel
theorem d_M_emitNumber_24 : decode m_M_emitNumber.2.1 24 = .ok (.aload_n 0, 1) := by decide +kernel
theorem d_M_emitNumber_25 : decode m_M_emitNumber.2.1 25 = .ok (.bipush 48, 2) := by decide +kernel
theorem d_M_emitNumber_27 : decode m_M_emitNumber.2.1 27 = .ok (.iload_n 1, 1) := by decide +kernel
theorem d_M_emitNumber_28 : decode m_M_emitNumber.2.1 28 = .ok (.iload_n 3, 1) := by decide +kernel
theorem d_M_emitNumber_29 : decode m_M_emitNumber.2.1 29 = .ok (.idiv, 1) := by decide +kernel
theorem d_M_emitNumber_30 : decode m_M_emitNumber.2.1 30 = .ok (.bipush 10, 2) := by decide +kernel
theorem d_M_emitNumber_32 : decode m_M_emitNumber.2.1 32 = .ok (.irem, 1) := by decide +kernel
theorem d_M_emitNumber_33 : decode m_M_emitNumber.2.1 33 = .ok (.iadd, 1) := by decide +kernel
theorem d_M_emitNumber_34 : decode m_M_emitNumber.2.1 34 = .ok (.invokevirtual 105, 3) := by decide +kernel
theorem d_M_emitNumber_37 : decode m_M_emitNumber.2.1 37 = .ok (.iload_n 3, 1) := by decide +kernel
theorem d_M_emitNumber_38 : decode m_M_emitNumber.2.1 38 = .ok (.bipush 10, 2) := by decide +kernel
theorem d_M_emitNumber_40 : decode m_M_emitNumber.2.1 40 = .ok (.idiv, 1) := by decide +kernel
theorem d_M_emitNumber_41 : decode m_M_emitNumber.2.1 41 = .ok (.istore_n 3, 1) := by decide +kernel
theorem d_M_emitNumber_42 : decode m_M_emitNumber.2.1 42 = .ok (.goto (-22), 3) := by decide +kernel
theorem d_M_emitNumber_45 : decode m_M_emitNumber.2.1 45 = .ok (.return_, 1) := by decide +kernel
theorem d_M_doTask_0 : decode m_M_doTask.2.1 0 = .ok (.iload_n 1, 1) := by decide +kernel
theorem d_M_doTask_1 : decode m_M_doTask.2.1 1 = .ok (.iconst 2, 1) := by decide +kernel
theorem d_M_doTask_2 : decode m_M_doTask.2.1 2 = .ok (.if_icmp .ne 26, 3) := by decide +kernel
theorem d_M_doTask_5 : decode m_M_doTask.2.1 5 = .ok (.aload_n 0, 1) := by decide +kernel
theorem d_M_doTask_6 : decode m_M_doTask.2.1 6 = .ok (.getfield 37, 3) := by decide +kernel
theorem d_M_doTask_9 : decode m_M_doTask.2.1 9 = .ok (.aload_n 0, 1) := by decide +kernel
theorem d_M_doTask_10 : decode m_M_doTask.2.1 10 = .ok (.getfield 110, 3) := by decide +kernel
theorem d_M_doTask_13 : decode m_M_doTask.2.1 13 = .ok (.iload_n 2, 1) := by decide +kernel
theorem d_M_doTask_14 : decode m_M_doTask.2.1 14 = .ok (.iastore, 1) := by decide +kernel
theorem d_M_doTask_15 : decode m_M_doTask.2.1 15 = .ok (.aload_n 0, 1) := by decide +kernel
theorem d_M_doTask_16 : decode m_M_doTask.2.1 16 = .ok (.dup, 1) := by decide +kernel
theorem d_M_doTask_17 : decode m_M_doTask.2.1 17 = .ok (.getfield 110, 3) := by decide +kernel
theorem d_M_doTask_20 : decode m_M_doTask.2.1 20 = .ok (.iconst 1, 1) := by decide +kernel
theorem d_M_doTask_21 : decode m_M_doTask.2.1 21 = .ok (.iadd, 1) := by decide +kernel
theorem d_M_doTask_22 : decode m_M_doTask.2.1 22 = .ok (.putfield 110, 3) := by decide +kernel
theorem d_M_doTask_25 : decode m_M_doTask.2.1 25 = .ok (.goto 158, 3) := by decide +kernel
theorem d_M_doTask_28 : decode m_M_doTask.2.1 28 = .ok (.iload_n 1, 1) := by decide +kernel
theorem d_M_doTask_29 : decode m_M_doTask.2.1 29 = .ok (.iconst 5, 1) := by decide +kernel
theorem d_M_doTask_30 : decode m_M_doTask.2.1 30 = .ok (.if_icmp .ne 11, 3) := by decide +kernel
theorem d_M_doTask_33 : decode m_M_doTask.2.1 33 = .ok (.aload_n 0, 1) := by decide +kernel
theorem d_M_doTask_34 : decode m_M_doTask.2.1 34 = .ok (.iload_n 2, 1) := by decide +kernel
theorem d_M_doTask_35 : decode m_M_doTask.2.1 35 = .ok (.invokevirtual 105, 3) := by decide +kernel
theorem d_M_doTask_38 : decode m_M_doTask.2.1 38 = .ok (.goto 145, 3) := by decide +kernel
theorem d_M_doTask_41 : decode m_M_doTask.2.1 41 = .ok (.iload_n 1, 1) := by decide +kernel
theorem d_M_doTask_42 : decode m_M_doTask.2.1 42 = .ok (.iconst 3, 1) := by decide +kernel
theorem d_M_doTask_43 : decode m_M_doTask.2.1 43 = .ok (.if_icmp .ne 16, 3) := by decide +kernel
theorem d_M_doTask_46 : decode m_M_doTask.2.1 46 = .ok (.aload_n 0, 1) := by decide +kernel
theorem d_M_doTask_47 : decode m_M_doTask.2.1 47 = .ok (.aload_n 0, 1) := by decide +kernel
theorem d_M_doTask_48 : decode m_M_doTask.2.1 48 = .ok (.getfield 13, 3) := by decide +kernel
theorem d_M_doTask_51 : decode m_M_doTask.2.1 51 = .ok (.iload_n 2, 1) := by decide +kernel
theorem d_M_doTask_52 : decode m_M_doTask.2.1 52 = .ok (.iaload, 1) := by decide +kernel
theorem d_M_doTask_53 : decode m_M_doTask.2.1 53 = .ok (.invokevirtual 133, 3) := by decide +kernel
theorem d_M_doTask_56 : decode m_M_doTask.2.1 56 = .ok (.goto 127, 3) := by decide +kernel
theorem d_M_doTask_59 : decode m_M_doTask.2.1 59 = .ok (.iload_n 1, 1) := by decide +kernel
theorem d_M_doTask_60 : decode m_M_doTask.2.1 60 = .ok (.iconst 4, 1) := by decide +kernel
theorem d_M_doTask_61 : decode m_M_doTask.2.1 61 = .ok (.if_icmp .ne 24, 3) := by decide +kernel
theorem d_M_doTask_64 : decode m_M_doTask.2.1 64 = .ok (.aload_n 0, 1) := by decide +kernel
theorem d_M_doTask_65 : decode m_M_doTask.2.1 65 = .ok (.bipush 73, 2) := by decide +kernel
theorem d_M_doTask_67 : decode m_M_doTask.2.1 67 = .ok (.invokevirtual 105, 3) := by decide +kernel
theorem d_M_doTask_70 : decode m_M_doTask.2.1 70 = .ok (.aload_n 0, 1) := by decide +kernel
theorem d_M_doTask_71 : decode m_M_doTask.2.1 71 = .ok (.iconst 5, 1) := by decide +kernel
theorem d_M_doTask_72 : decode m_M_doTask.2.1 72 = .ok (.bipush 69, 2) := by decide +kernel
theorem d_M_doTask_74 : decode m_M_doTask.2.1 74 = .ok (.invokevirtual 123, 3) := by decide +kernel
theorem d_M_doTask_77 : decode m_M_doTask.2.1 77 = .ok (.aload_n 0, 1) := by decide +kernel
theorem d_M_doTask_78 : decode m_M_doTask.2.1 78 = .ok (.iload_n 2, 1) := by decide +kernel
theorem d_M_doTask_79 : decode m_M_doTask.2.1 79 = .ok (.invokevirtual 136, 3) := by decide +kernel
theorem d_M_doTask_82 : decode m_M_doTask.2.1 82 = .ok (.goto 101, 3) := by decide +kernel
theorem d_M_doTask_85 : decode m_M_doTask.2.1 85 = .ok (.iload_n 1, 1) := by decide +kernel
theorem d_M_doTask_86 : decode m_M_doTask.2.1 86 = .ok (.bipush 6, 2) := by decide +kernel
theorem d_M_doTask_88 : decode m_M_doTask.2.1 88 = .ok (.if_icmp .ne 11, 3) := by decide +kernel
theorem d_M_doTask_91 : decode m_M_doTask.2.1 91 = .ok (.aload_n 0, 1) := by decide +kernel
theorem d_M_doTask_92 : decode m_M_doTask.2.1 92 = .ok (.iload_n 2, 1) := by decide +kernel
theorem d_M_doTask_93 : decode m_M_doTask.2.1 93 = .ok (.invokevirtual 139, 3) := by decide +kernel
theorem d_M_doTask_96 : decode m_M_doTask.2.1 96 = .ok (.goto 87, 3) := by decide +kernel
theorem d_M_doTask_99 : decode m_M_doTask.2.1 99 = .ok (.iload_n 1, 1) := by decide +kernel
theorem d_M_doTask_100 : decode m_M_doTask.2.1 100 = .ok (.iconst 1, 1) := by decide +kernel
theorem d_M_doTask_101 : decode m_M_doTask.2.1 101 = .ok (.if_icmp .ne 19, 3) := by decide +kernel
theorem d_M_doTask_104 : decode m_M_doTask.2.1 104 = .ok (.aload_n 0, 1) := by decide +kernel
theorem d_M_doTask_105 : decode m_M_doTask.2.1 105 = .ok (.iload_n 2, 1) := by decide +kernel
theorem d_M_doTask_106 : decode m_M_doTask.2.1 106 = .ok (.invokevirtual 142, 3) := by decide +kernel
theorem d_M_doTask_109 : decode m_M_doTask.2.1 109 = .ok (.ifCond .ne 74, 3) := by decide +kernel
theorem d_M_doTask_112 : decode m_M_doTask.2.1 112 = .ok (.aload_n 0, 1) := by decide +kernel
theorem d_M_doTask_113 : decode m_M_doTask.2.1 113 = .ok (.iload_n 2, 1) := by decide +kernel
theorem d_M_doTask_114 : decode m_M_doTask.2.1 114 = .ok (.invokevirtual 145, 3) := by decide +kernel
theorem d_M_doTask_117 : decode m_M_doTask.2.1 117 = .ok (.goto 66, 3) := by decide +kernel
theorem d_M_doTask_120 : decode m_M_doTask.2.1 120 = .ok (.aload_n 0, 1) := by decide +kernel
theorem d_M_doTask_121 : decode m_M_doTask.2.1 121 = .ok (.getfield 7, 3) := by decide +kernel
theorem d_M_doTask_124 : decode m_M_doTask.2.1 124 = .ok (.iload_n 2, 1) := by decide +kernel
theorem d_M_doTask_125 : decode m_M_doTask.2.1 125 = .ok (.iaload, 1) := by decide +kernel
theorem d_M_doTask_126 : decode m_M_doTask.2.1 126 = .ok (.ifCond .ne 19, 3) := by decide +kernel
theorem d_M_doTask_129 : decode m_M_doTask.2.1 129 = .ok (.aload_n 0, 1) := by decide +kernel
theorem d_M_doTask_130 : decode m_M_doTask.2.1 130 = .ok (.aload_n 0, 1) := by decide +kernel
theorem d_M_doTask_131 : decode m_M_doTask.2.1 131 = .ok (.getfield 13, 3) := by decide +kernel
theorem d_M_doTask_134 : decode m_M_doTask.2.1 134 = .ok (.iload_n 2, 1) := by decide +kernel
theorem d_M_doTask_135 : decode m_M_doTask.2.1 135 = .ok (.iaload, 1) := by decide +kernel
theorem d_M_doTask_136 : decode m_M_doTask.2.1 136 = .ok (.invokestatic 127, 3) := by decide +kernel
theorem d_M_doTask_139 : decode m_M_doTask.2.1 139 = .ok (.invokevirtual 105, 3) := by decide +kernel
theorem d_M_doTask_142 : decode m_M_doTask.2.1 142 = .ok (.goto 41, 3) := by decide +kernel
theorem d_M_doTask_145 : decode m_M_doTask.2.1 145 = .ok (.aload_n 0, 1) := by decide +kernel
theorem d_M_doTask_146 : decode m_M_doTask.2.1 146 = .ok (.getfield 7, 3) := by decide +kernel
theorem d_M_doTask_149 : decode m_M_doTask.2.1 149 = .ok (.iload_n 2, 1) := by decide +kernel
theorem d_M_doTask_150 : decode m_M_doTask.2.1 150 = .ok (.iaload, 1) := by decide +kernel
theorem d_M_doTask_151 : decode m_M_doTask.2.1 151 = .ok (.bipush 9, 2) := by decide +kernel
theorem d_M_doTask_153 : decode m_M_doTask.2.1 153 = .ok (.if_icmp .ne 11, 3) := by decide +kernel
theorem d_M_doTask_156 : decode m_M_doTask.2.1 156 = .ok (.aload_n 0, 1) := by decide +kernel
theorem d_M_doTask_157 : decode m_M_doTask.2.1 157 = .ok (.iload_n 2, 1) := by decide +kernel
theorem d_M_doTask_158 : decode m_M_doTask.2.1 158 = .ok (.invokevirtual 148, 3) := by decide +kernel
theorem d_M_doTask_161 : decode m_M_doTask.2.1 161 = .ok (.goto 22, 3) := by decide +kernel
theorem d_M_doTask_164 : decode m_M_doTask.2.1 164 = .ok (.aload_n 0, 1) := by decide +kernel
theorem d_M_doTask_165 : decode m_M_doTask.2.1 165 = .ok (.iload_n 2, 1) := by decide +kernel
theorem d_M_doTask_166 : decode m_M_doTask.2.1 166 = .ok (.invokevirtual 142, 3) := by decide +kernel
theorem d_M_doTask_169 : decode m_M_doTask.2.1 169 = .ok (.ifCond .ne 14, 3) := by decide +kernel
theorem d_M_doTask_172 : decode m_M_doTask.2.1 172 = .ok (.aload_n 0, 1) := by decide +kernel
theorem d_M_doTask_173 : decode m_M_doTask.2.1 173 = .ok (.iconst 2, 1) := by decide +kernel
theorem d_M_doTask_174 : decode m_M_doTask.2.1 174 = .ok (.iload_n 2, 1) := by decide +kernel
theorem d_M_doTask_175 : decode m_M_doTask.2.1 175 = .ok (.invokevirtual 123, 3) := by decide +kernel
theorem d_M_doTask_178 : decode m_M_doTask.2.1 178 = .ok (.aload_n 0, 1) := by decide +kernel
theorem d_M_doTask_179 : decode m_M_doTask.2.1 179 = .ok (.iload_n 2, 1) := by decide +kernel
theorem d_M_doTask_180 : decode m_M_doTask.2.1 180 = .ok (.invokevirtual 151, 3) := by decide +kernel
theorem d_M_doTask_183 : decode m_M_doTask.2.1 183 = .ok (.return_, 1) := by decide +kernel
theorem d_M_pushParts_0 : decode m_M_pushParts.2.1 0 = .ok (.iconst 2, 1) := by decide +kernel
theorem d_M_pushParts_1 : decode m_M_pushParts.2.1 1 = .ok (.istore_n 2, 1) := by decide +kernel
theorem d_M_pushParts_2 : decode m_M_pushParts.2.1 2 = .ok (.iload_n 2, 1) := by decide +kernel
theorem d_M_pushParts_3 : decode m_M_pushParts.2.1 3 = .ok (.ifCond .lt 37, 3) := by decide +kernel
theorem d_M_pushParts_6 : decode m_M_pushParts.2.1 6 = .ok (.aload_n 0, 1) := by decide +kernel
theorem d_M_pushParts_7 : decode m_M_pushParts.2.1 7 = .ok (.getfield 22, 3) := by decide +kernel
theorem d_M_pushParts_10 : decode m_M_pushParts.2.1 10 = .ok (.iconst 3, 1) := by decide +kernel
theorem d_M_pushParts_11 : decode m_M_pushParts.2.1 11 = .ok (.iload_n 1, 1) := by decide +kernel
theorem d_M_pushParts_12 : decode m_M_pushParts.2.1 12 = .ok (.imul, 1) := by decide +kernel
theorem d_M_pushParts_13 : decode m_M_pushParts.2.1 13 = .ok (.iload_n 2, 1) := by decide +kernel
theorem d_M_pushParts_14 : decode m_M_pushParts.2.1 14 = .ok (.iadd, 1) := by decide +kernel
theorem d_M_pushParts_15 : decode m_M_pushParts.2.1 15 = .ok (.iaload, 1) := by decide +kernel
theorem d_M_pushParts_16 : decode m_M_pushParts.2.1 16 = .ok (.ifCond .lt 18, 3) := by decide +kernel
theorem d_M_pushParts_19 : decode m_M_pushParts.2.1 19 = .ok (.aload_n 0, 1) := by decide +kernel
theorem d_M_pushParts_20 : decode m_M_pushParts.2.1 20 = .ok (.iconst 0, 1) := by decide +kernel
theorem d_M_pushParts_21 : decode m_M_pushParts.2.1 21 = .ok (.aload_n 0, 1) := by decide +kernel
theorem d_M_pushParts_22 : decode m_M_pushParts.2.1 22 = .ok (.getfield 22, 3) := by decide +kernel
theorem d_M_pushParts_25 : decode m_M_pushParts.2.1 25 = .ok (.iconst 3, 1) := by decide +kernel
theorem d_M_pushParts_26 : decode m_M_pushParts.2.1 26 = .ok (.iload_n 1, 1) := by decide +kernel
theorem d_M_pushParts_27 : decode m_M_pushParts.2.1 27 = .ok (.imul, 1) := by decide +kernel
theorem d_M_pushParts_28 : decode m_M_pushParts.2.1 28 = .ok (.iload_n 2, 1) := by decide +kernel
theorem d_M_pushParts_29 : decode m_M_pushParts.2.1 29 = .ok (.iadd, 1) := by decide +kernel
theorem d_M_pushParts_30 : decode m_M_pushParts.2.1 30 = .ok (.iaload, 1) := by decide +kernel
theorem d_M_pushParts_31 : decode m_M_pushParts.2.1 31 = .ok (.invokevirtual 123, 3) := by decide +kernel
theorem d_M_pushParts_34 : decode m_M_pushParts.2.1 34 = .ok (.iinc 2 (-1), 3) := by decide +kernel
theorem d_M_pushParts_37 : decode m_M_pushParts.2.1 37 = .ok (.goto (-35), 3) := by decide +kernel
theorem d_M_pushParts_40 : decode m_M_pushParts.2.1 40 = .ok (.return_, 1) := by decide +kernel
theorem d_M_params_0 : decode m_M_params.2.1 0 = .ok (.aload_n 0, 1) := by decide +kernel
theorem d_M_params_1 : decode m_M_params.2.1 1 = .ok (.getfield 22, 3) := by decide +kernel
theorem d_M_params_4 : decode m_M_params.2.1 4 = .ok (.iconst 3, 1) := by decide +kernel
theorem d_M_params_5 : decode m_M_params.2.1 5 = .ok (.iload_n 1, 1) := by decide +kernel
theorem d_M_params_6 : decode m_M_params.2.1 6 = .ok (.imul, 1) := by decide +kernel
theorem d_M_params_7 : decode m_M_params.2.1 7 = .ok (.iaload, 1) := by decide +kernel
theorem d_M_params_8 : decode m_M_params.2.1 8 = .ok (.ifCond .ge 9, 3) := by decide +kernel
theorem d_M_params_11 : decode m_M_params.2.1 11 = .ok (.aload_n 0, 1) := by decide +kernel
theorem d_M_params_12 : decode m_M_params.2.1 12 = .ok (.bipush 118, 2) := by decide +kernel
theorem d_M_params_14 : decode m_M_params.2.1 14 = .ok (.invokevirtual 105, 3) := by decide +kernel
theorem d_M_params_17 : decode m_M_params.2.1 17 = .ok (.aload_n 0, 1) := by decide +kernel
theorem d_M_params_18 : decode m_M_params.2.1 18 = .ok (.iload_n 1, 1) := by decide +kernel
theorem d_M_params_19 : decode m_M_params.2.1 19 = .ok (.invokevirtual 136, 3) := by decide +kernel
theorem d_M_params_22 : decode m_M_params.2.1 22 = .ok (.return_, 1) := by decide +kernel
