/-! decode rows, by program (wip/whole/gen03.py) -/
theorem d_R_readTold_0 : decode m_R_readTold.2.1 0 = .ok (.aload_n 0, 1) := by decide +kernel
theorem d_R_readTold_1 : decode m_R_readTold.2.1 1 = .ok (.bipush 83, 2) := by decide +kernel
theorem d_R_readTold_3 : decode m_R_readTold.2.1 3 = .ok (.invokevirtual 33, 3) := by decide +kernel
theorem d_R_readTold_6 : decode m_R_readTold.2.1 6 = .ok (.aload_n 0, 1) := by decide +kernel
theorem d_R_readTold_7 : decode m_R_readTold.2.1 7 = .ok (.invokevirtual 55, 3) := by decide +kernel
theorem d_R_readTold_10 : decode m_R_readTold.2.1 10 = .ok (.bipush 95, 2) := by decide +kernel
theorem d_R_readTold_12 : decode m_R_readTold.2.1 12 = .ok (.if_icmp .ne 7, 3) := by decide +kernel
theorem d_R_readTold_15 : decode m_R_readTold.2.1 15 = .ok (.iconst 0, 1) := by decide +kernel
theorem d_R_readTold_16 : decode m_R_readTold.2.1 16 = .ok (.goto 12, 3) := by decide +kernel
theorem d_R_readTold_19 : decode m_R_readTold.2.1 19 = .ok (.aload_n 0, 1) := by decide +kernel
theorem d_R_readTold_20 : decode m_R_readTold.2.1 20 = .ok (.bipush 36, 2) := by decide +kernel
theorem d_R_readTold_22 : decode m_R_readTold.2.1 22 = .ok (.iconst 2, 1) := by decide +kernel
theorem d_R_readTold_23 : decode m_R_readTold.2.1 23 = .ok (.invokevirtual 112, 3) := by decide +kernel
theorem d_R_readTold_26 : decode m_R_readTold.2.1 26 = .ok (.iconst 1, 1) := by decide +kernel
theorem d_R_readTold_27 : decode m_R_readTold.2.1 27 = .ok (.iadd, 1) := by decide +kernel
theorem d_R_readTold_28 : decode m_R_readTold.2.1 28 = .ok (.istore_n 1, 1) := by decide +kernel
theorem d_R_readTold_29 : decode m_R_readTold.2.1 29 = .ok (.aload_n 0, 1) := by decide +kernel
theorem d_R_readTold_30 : decode m_R_readTold.2.1 30 = .ok (.bipush 95, 2) := by decide +kernel
theorem d_R_readTold_32 : decode m_R_readTold.2.1 32 = .ok (.invokevirtual 33, 3) := by decide +kernel
theorem d_R_readTold_35 : decode m_R_readTold.2.1 35 = .ok (.aload_n 0, 1) := by decide +kernel
theorem d_R_readTold_36 : decode m_R_readTold.2.1 36 = .ok (.getfield 12, 3) := by decide +kernel
theorem d_R_readTold_39 : decode m_R_readTold.2.1 39 = .ok (.iload_n 1, 1) := by decide +kernel
theorem d_R_readTold_40 : decode m_R_readTold.2.1 40 = .ok (.invokevirtual 74, 3) := by decide +kernel
theorem d_R_readTold_43 : decode m_R_readTold.2.1 43 = .ok (.istore_n 2, 1) := by decide +kernel
theorem d_R_readTold_44 : decode m_R_readTold.2.1 44 = .ok (.iload_n 2, 1) := by decide +kernel
theorem d_R_readTold_45 : decode m_R_readTold.2.1 45 = .ok (.iconst (-1), 1) := by decide +kernel
theorem d_R_readTold_46 : decode m_R_readTold.2.1 46 = .ok (.if_icmp .eq 7, 3) := by decide +kernel
theorem d_R_readTold_49 : decode m_R_readTold.2.1 49 = .ok (.iconst 1, 1) := by decide +kernel
theorem d_R_readTold_50 : decode m_R_readTold.2.1 50 = .ok (.goto 4, 3) := by decide +kernel
theorem d_R_readTold_53 : decode m_R_readTold.2.1 53 = .ok (.iconst 0, 1) := by decide +kernel
theorem d_R_readTold_54 : decode m_R_readTold.2.1 54 = .ok (.invokestatic 59, 3) := by decide +kernel
theorem d_R_readTold_57 : decode m_R_readTold.2.1 57 = .ok (.iload_n 2, 1) := by decide +kernel
theorem d_R_readTold_58 : decode m_R_readTold.2.1 58 = .ok (.ireturn, 1) := by decide +kernel
theorem d_R_readNumber_0 : decode m_R_readNumber.2.1 0 = .ok (.aload_n 0, 1) := by decide +kernel
theorem d_R_readNumber_1 : decode m_R_readNumber.2.1 1 = .ok (.invokevirtual 55, 3) := by decide +kernel
theorem d_R_readNumber_4 : decode m_R_readNumber.2.1 4 = .ok (.bipush 48, 2) := by decide +kernel
theorem d_R_readNumber_6 : decode m_R_readNumber.2.1 6 = .ok (.if_icmp .ne 7, 3) := by decide +kernel
theorem d_R_readNumber_9 : decode m_R_readNumber.2.1 9 = .ok (.iconst 1, 1) := by decide +kernel
theorem d_R_readNumber_10 : decode m_R_readNumber.2.1 10 = .ok (.goto 4, 3) := by decide +kernel
theorem d_R_readNumber_13 : decode m_R_readNumber.2.1 13 = .ok (.iconst 0, 1) := by decide +kernel
theorem d_R_readNumber_14 : decode m_R_readNumber.2.1 14 = .ok (.istore_n 3, 1) := by decide +kernel
theorem d_R_readNumber_15 : decode m_R_readNumber.2.1 15 = .ok (.iconst 0, 1) := by decide +kernel
theorem d_R_readNumber_16 : decode m_R_readNumber.2.1 16 = .ok (.istore 4, 2) := by decide +kernel
theorem d_R_readNumber_18 : decode m_R_readNumber.2.1 18 = .ok (.iconst 0, 1) := by decide +kernel
theorem d_R_readNumber_19 : decode m_R_readNumber.2.1 19 = .ok (.istore 5, 2) := by decide +kernel
theorem d_R_readNumber_21 : decode m_R_readNumber.2.1 21 = .ok (.iload 5, 2) := by decide +kernel
theorem d_R_readNumber_23 : decode m_R_readNumber.2.1 23 = .ok (.iload_n 2, 1) := by decide +kernel
theorem d_R_readNumber_24 : decode m_R_readNumber.2.1 24 = .ok (.if_icmp .ge 46, 3) := by decide +kernel
theorem d_R_readNumber_27 : decode m_R_readNumber.2.1 27 = .ok (.aload_n 0, 1) := by decide +kernel
theorem d_R_readNumber_28 : decode m_R_readNumber.2.1 28 = .ok (.invokevirtual 55, 3) := by decide +kernel
theorem d_R_readNumber_31 : decode m_R_readNumber.2.1 31 = .ok (.iload_n 1, 1) := by decide +kernel
theorem d_R_readNumber_32 : decode m_R_readNumber.2.1 32 = .ok (.invokestatic 158, 3) := by decide +kernel
theorem d_R_readNumber_35 : decode m_R_readNumber.2.1 35 = .ok (.iconst (-1), 1) := by decide +kernel
theorem d_R_readNumber_36 : decode m_R_readNumber.2.1 36 = .ok (.if_icmp .eq 34, 3) := by decide +kernel
theorem d_R_readNumber_39 : decode m_R_readNumber.2.1 39 = .ok (.iload 4, 2) := by decide +kernel
theorem d_R_readNumber_41 : decode m_R_readNumber.2.1 41 = .ok (.iload_n 1, 1) := by decide +kernel
theorem d_R_readNumber_42 : decode m_R_readNumber.2.1 42 = .ok (.imul, 1) := by decide +kernel
theorem d_R_readNumber_43 : decode m_R_readNumber.2.1 43 = .ok (.aload_n 0, 1) := by decide +kernel
theorem d_R_readNumber_44 : decode m_R_readNumber.2.1 44 = .ok (.invokevirtual 55, 3) := by decide +kernel
theorem d_R_readNumber_47 : decode m_R_readNumber.2.1 47 = .ok (.iload_n 1, 1) := by decide +kernel
theorem d_R_readNumber_48 : decode m_R_readNumber.2.1 48 = .ok (.invokestatic 158, 3) := by decide +kernel
theorem d_R_readNumber_51 : decode m_R_readNumber.2.1 51 = .ok (.iadd, 1) := by decide +kernel
theorem d_R_readNumber_52 : decode m_R_readNumber.2.1 52 = .ok (.istore 4, 2) := by decide +kernel
theorem d_R_readNumber_54 : decode m_R_readNumber.2.1 54 = .ok (.aload_n 0, 1) := by decide +kernel
theorem d_R_readNumber_55 : decode m_R_readNumber.2.1 55 = .ok (.dup, 1) := by decide +kernel
theorem d_R_readNumber_56 : decode m_R_readNumber.2.1 56 = .ok (.getfield 25, 3) := by decide +kernel
theorem d_R_readNumber_59 : decode m_R_readNumber.2.1 59 = .ok (.iconst 1, 1) := by decide +kernel
theorem d_R_readNumber_60 : decode m_R_readNumber.2.1 60 = .ok (.iadd, 1) := by decide +kernel
theorem d_R_readNumber_61 : decode m_R_readNumber.2.1 61 = .ok (.putfield 25, 3) := by decide +kernel
theorem d_R_readNumber_64 : decode m_R_readNumber.2.1 64 = .ok (.iinc 5 1, 3) := by decide +kernel
theorem d_R_readNumber_67 : decode m_R_readNumber.2.1 67 = .ok (.goto (-46), 3) := by decide +kernel
theorem d_R_readNumber_70 : decode m_R_readNumber.2.1 70 = .ok (.iload 5, 2) := by decide +kernel
theorem d_R_readNumber_72 : decode m_R_readNumber.2.1 72 = .ok (.iconst 1, 1) := by decide +kernel
theorem d_R_readNumber_73 : decode m_R_readNumber.2.1 73 = .ok (.if_icmp .eq 13, 3) := by decide +kernel
theorem d_R_readNumber_76 : decode m_R_readNumber.2.1 76 = .ok (.iload 5, 2) := by decide +kernel
theorem d_R_readNumber_78 : decode m_R_readNumber.2.1 78 = .ok (.iconst 1, 1) := by decide +kernel
theorem d_R_readNumber_79 : decode m_R_readNumber.2.1 79 = .ok (.if_icmp .le 11, 3) := by decide +kernel
theorem d_R_readNumber_82 : decode m_R_readNumber.2.1 82 = .ok (.iload_n 3, 1) := by decide +kernel
theorem d_R_readNumber_83 : decode m_R_readNumber.2.1 83 = .ok (.ifCond .ne 7, 3) := by decide +kernel
theorem d_R_readNumber_86 : decode m_R_readNumber.2.1 86 = .ok (.iconst 1, 1) := by decide +kernel
theorem d_R_readNumber_87 : decode m_R_readNumber.2.1 87 = .ok (.goto 4, 3) := by decide +kernel
theorem d_R_readNumber_90 : decode m_R_readNumber.2.1 90 = .ok (.iconst 0, 1) := by decide +kernel
theorem d_R_readNumber_91 : decode m_R_readNumber.2.1 91 = .ok (.invokestatic 59, 3) := by decide +kernel
theorem d_R_readNumber_94 : decode m_R_readNumber.2.1 94 = .ok (.iload 4, 2) := by decide +kernel
theorem d_R_readNumber_96 : decode m_R_readNumber.2.1 96 = .ok (.ireturn, 1) := by decide +kernel
theorem d_R_digitOf_0 : decode m_R_digitOf.2.1 0 = .ok (.iload_n 0, 1) := by decide +kernel
theorem d_R_digitOf_1 : decode m_R_digitOf.2.1 1 = .ok (.bipush 48, 2) := by decide +kernel
theorem d_R_digitOf_3 : decode m_R_digitOf.2.1 3 = .ok (.if_icmp .lt 14, 3) := by decide +kernel
theorem d_R_digitOf_6 : decode m_R_digitOf.2.1 6 = .ok (.iload_n 0, 1) := by decide +kernel
theorem d_R_digitOf_7 : decode m_R_digitOf.2.1 7 = .ok (.bipush 57, 2) := by decide +kernel
theorem d_R_digitOf_9 : decode m_R_digitOf.2.1 9 = .ok (.if_icmp .gt 8, 3) := by decide +kernel
theorem d_R_digitOf_12 : decode m_R_digitOf.2.1 12 = .ok (.iload_n 0, 1) := by decide +kernel
theorem d_R_digitOf_13 : decode m_R_digitOf.2.1 13 = .ok (.bipush 48, 2) := by decide +kernel
theorem d_R_digitOf_15 : decode m_R_digitOf.2.1 15 = .ok (.isub, 1) := by decide +kernel
theorem d_R_digitOf_16 : decode m_R_digitOf.2.1 16 = .ok (.ireturn, 1) := by decide +kernel
theorem d_R_digitOf_17 : decode m_R_digitOf.2.1 17 = .ok (.iload_n 1, 1) := by decide +kernel
theorem d_R_digitOf_18 : decode m_R_digitOf.2.1 18 = .ok (.bipush 36, 2) := by decide +kernel
theorem d_R_digitOf_20 : decode m_R_digitOf.2.1 20 = .ok (.if_icmp .ne 25, 3) := by decide +kernel
theorem d_R_digitOf_23 : decode m_R_digitOf.2.1 23 = .ok (.iload_n 0, 1) := by decide +kernel
theorem d_R_digitOf_24 : decode m_R_digitOf.2.1 24 = .ok (.bipush 65, 2) := by decide +kernel
theorem d_R_digitOf_26 : decode m_R_digitOf.2.1 26 = .ok (.if_icmp .lt 19, 3) := by decide +kernel
theorem d_R_digitOf_29 : decode m_R_digitOf.2.1 29 = .ok (.iload_n 0, 1) := by decide +kernel
theorem d_R_digitOf_30 : decode m_R_digitOf.2.1 30 = .ok (.bipush 90, 2) := by decide +kernel
theorem d_R_digitOf_32 : decode m_R_digitOf.2.1 32 = .ok (.if_icmp .gt 13, 3) := by decide +kernel
theorem d_R_digitOf_35 : decode m_R_digitOf.2.1 35 = .ok (.iload_n 0, 1) := by decide +kernel
theorem d_R_digitOf_36 : decode m_R_digitOf.2.1 36 = .ok (.bipush 65, 2) := by decide +kernel
theorem d_R_digitOf_38 : decode m_R_digitOf.2.1 38 = .ok (.isub, 1) := by decide +kernel
theorem d_R_digitOf_39 : decode m_R_digitOf.2.1 39 = .ok (.bipush 10, 2) := by decide +kernel
theorem d_R_digitOf_41 : decode m_R_digitOf.2.1 41 = .ok (.iadd, 1) := by decide +kernel
theorem d_R_digitOf_42 : decode m_R_digitOf.2.1 42 = .ok (.goto 4, 3) := by decide +kernel
theorem d_R_digitOf_45 : decode m_R_digitOf.2.1 45 = .ok (.iconst (-1), 1) := by decide +kernel
theorem d_R_digitOf_46 : decode m_R_digitOf.2.1 46 = .ok (.ireturn, 1) := by decide +kernel
theorem d_R_readId_0 : decode m_R_readId.2.1 0 = .ok (.aload_n 0, 1) := by decide +kernel
theorem d_R_readId_1 : decode m_R_readId.2.1 1 = .ok (.bipush 10, 2) := by decide +kernel
theorem d_R_readId_3 : decode m_R_readId.2.1 3 = .ok (.iconst 1, 1) := by decide +kernel
theorem d_R_readId_4 : decode m_R_readId.2.1 4 = .ok (.invokevirtual 112, 3) := by decide +kernel
theorem d_R_readId_7 : decode m_R_readId.2.1 7 = .ok (.istore_n 1, 1) := by decide +kernel
theorem d_R_readId_8 : decode m_R_readId.2.1 8 = .ok (.iload_n 1, 1) := by decide +kernel
theorem d_R_readId_9 : decode m_R_readId.2.1 9 = .ok (.iconst 1, 1) := by decide +kernel
theorem d_R_readId_10 : decode m_R_readId.2.1 10 = .ok (.if_icmp .lt 12, 3) := by decide +kernel
theorem d_R_readId_13 : decode m_R_readId.2.1 13 = .ok (.iload_n 1, 1) := by decide +kernel
theorem d_R_readId_14 : decode m_R_readId.2.1 14 = .ok (.iconst 3, 1) := by decide +kernel
theorem d_R_readId_15 : decode m_R_readId.2.1 15 = .ok (.if_icmp .gt 7, 3) := by decide +kernel
theorem d_R_readId_18 : decode m_R_readId.2.1 18 = .ok (.iconst 1, 1) := by decide +kernel
theorem d_R_readId_19 : decode m_R_readId.2.1 19 = .ok (.goto 4, 3) := by decide +kernel
theorem d_R_readId_22 : decode m_R_readId.2.1 22 = .ok (.iconst 0, 1) := by decide +kernel
theorem d_R_readId_23 : decode m_R_readId.2.1 23 = .ok (.invokestatic 59, 3) := by decide +kernel
theorem d_R_readId_26 : decode m_R_readId.2.1 26 = .ok (.iconst 0, 1) := by decide +kernel
theorem d_R_readId_27 : decode m_R_readId.2.1 27 = .ok (.istore_n 2, 1) := by decide +kernel
theorem d_R_readId_28 : decode m_R_readId.2.1 28 = .ok (.iconst 0, 1) := by decide +kernel
theorem d_R_readId_29 : decode m_R_readId.2.1 29 = .ok (.istore_n 3, 1) := by decide +kernel
theorem d_R_readId_30 : decode m_R_readId.2.1 30 = .ok (.iload_n 3, 1) := by decide +kernel
theorem d_R_readId_31 : decode m_R_readId.2.1 31 = .ok (.iload_n 1, 1) := by decide +kernel
theorem d_R_readId_32 : decode m_R_readId.2.1 32 = .ok (.if_icmp .ge 39, 3) := by decide +kernel
theorem d_R_readId_35 : decode m_R_readId.2.1 35 = .ok (.aload_n 0, 1) := by decide +kernel
theorem d_R_readId_36 : decode m_R_readId.2.1 36 = .ok (.invokevirtual 55, 3) := by decide +kernel
theorem d_R_readId_39 : decode m_R_readId.2.1 39 = .ok (.invokestatic 155, 3) := by decide +kernel
theorem d_R_readId_42 : decode m_R_readId.2.1 42 = .ok (.invokestatic 59, 3) := by decide +kernel
theorem d_R_readId_45 : decode m_R_readId.2.1 45 = .ok (.iload_n 2, 1) := by decide +kernel
theorem d_R_readId_46 : decode m_R_readId.2.1 46 = .ok (.bipush 8, 2) := by decide +kernel
theorem d_R_readId_48 : decode m_R_readId.2.1 48 = .ok (.ishl, 1) := by decide +kernel
theorem d_R_readId_49 : decode m_R_readId.2.1 49 = .ok (.aload_n 0, 1) := by decide +kernel
theorem d_R_readId_50 : decode m_R_readId.2.1 50 = .ok (.invokevirtual 55, 3) := by decide +kernel
theorem d_R_readId_53 : decode m_R_readId.2.1 53 = .ok (.ior, 1) := by decide +kernel
theorem d_R_readId_54 : decode m_R_readId.2.1 54 = .ok (.istore_n 2, 1) := by decide +kernel
theorem d_R_readId_55 : decode m_R_readId.2.1 55 = .ok (.aload_n 0, 1) := by decide +kernel
theorem d_R_readId_56 : decode m_R_readId.2.1 56 = .ok (.dup, 1) := by decide +kernel
theorem d_R_readId_57 : decode m_R_readId.2.1 57 = .ok (.getfield 25, 3) := by decide +kernel
theorem d_R_readId_60 : decode m_R_readId.2.1 60 = .ok (.iconst 1, 1) := by decide +kernel
theorem d_R_readId_61 : decode m_R_readId.2.1 61 = .ok (.iadd, 1) := by decide +kernel
theorem d_R_readId_62 : decode m_R_readId.2.1 62 = .ok (.putfield 25, 3) := by decide +kernel
theorem d_R_readId_65 : decode m_R_readId.2.1 65 = .ok (.iinc 3 1, 3) := by decide +kernel
theorem d_R_readId_68 : decode m_R_readId.2.1 68 = .ok (.goto (-38), 3) := by decide +kernel
theorem d_R_readId_71 : decode m_R_readId.2.1 71 = .ok (.iload_n 2, 1) := by decide +kernel
theorem d_R_readId_72 : decode m_R_readId.2.1 72 = .ok (.ireturn, 1) := by decide +kernel
theorem d_R_readNestedStep_0 : decode m_R_readNestedStep.2.1 0 = .ok (.aload_n 0, 1) := by decide +kernel
theorem d_R_readNestedStep_1 : decode m_R_readNestedStep.2.1 1 = .ok (.invokevirtual 55, 3) := by decide +kernel
theorem d_R_readNestedStep_4 : decode m_R_readNestedStep.2.1 4 = .ok (.bipush 73, 2) := by decide +kernel
theorem d_R_readNestedStep_6 : decode m_R_readNestedStep.2.1 6 = .ok (.if_icmp .ne 12, 3) := by decide +kernel
theorem d_R_readNestedStep_9 : decode m_R_readNestedStep.2.1 9 = .ok (.aload_n 0, 1) := by decide +kernel
theorem d_R_readNestedStep_10 : decode m_R_readNestedStep.2.1 10 = .ok (.iload_n 1, 1) := by decide +kernel
theorem d_R_readNestedStep_11 : decode m_R_readNestedStep.2.1 11 = .ok (.iload_n 2, 1) := by decide +kernel
theorem d_R_readNestedStep_12 : decode m_R_readNestedStep.2.1 12 = .ok (.invokevirtual 96, 3) := by decide +kernel
theorem d_R_readNestedStep_15 : decode m_R_readNestedStep.2.1 15 = .ok (.goto 15, 3) := by decide +kernel
theorem d_R_readNestedStep_18 : decode m_R_readNestedStep.2.1 18 = .ok (.aload_n 0, 1) := by decide +kernel
theorem d_R_readNestedStep_19 : decode m_R_readNestedStep.2.1 19 = .ok (.getfield 18, 3) := by decide +kernel
theorem d_R_readNestedStep_22 : decode m_R_readNestedStep.2.1 22 = .ok (.iload_n 1, 1) := by decide +kernel
theorem d_R_readNestedStep_23 : decode m_R_readNestedStep.2.1 23 = .ok (.aload_n 0, 1) := by decide +kernel
theorem d_R_readNestedStep_24 : decode m_R_readNestedStep.2.1 24 = .ok (.invokevirtual 125, 3) := by decide +kernel
theorem d_R_readNestedStep_27 : decode m_R_readNestedStep.2.1 27 = .ok (.invokevirtual 140, 3) := by decide +kernel
theorem d_R_readNestedStep_30 : decode m_R_readNestedStep.2.1 30 = .ok (.ireturn, 1) := by decide +kernel
theorem d_R_readFilled_0 : decode m_R_readFilled.2.1 0 = .ok (.aload_n 0, 1) := by decide +kernel
theorem d_R_readFilled_1 : decode m_R_readFilled.2.1 1 = .ok (.bipush 73, 2) := by decide +kernel
theorem d_R_readFilled_3 : decode m_R_readFilled.2.1 3 = .ok (.invokevirtual 33, 3) := by decide +kernel
theorem d_R_readFilled_6 : decode m_R_readFilled.2.1 6 = .ok (.aload_n 0, 1) := by decide +kernel
theorem d_R_readFilled_7 : decode m_R_readFilled.2.1 7 = .ok (.iload_n 2, 1) := by decide +kernel
theorem d_R_readFilled_8 : decode m_R_readFilled.2.1 8 = .ok (.iconst 1, 1) := by decide +kernel
theorem d_R_readFilled_9 : decode m_R_readFilled.2.1 9 = .ok (.iadd, 1) := by decide +kernel
theorem d_R_readFilled_10 : decode m_R_readFilled.2.1 10 = .ok (.invokevirtual 143, 3) := by decide +kernel
theorem d_R_readFilled_13 : decode m_R_readFilled.2.1 13 = .ok (.istore_n 3, 1) := by decide +kernel
theorem d_R_readFilled_14 : decode m_R_readFilled.2.1 14 = .ok (.aload_n 0, 1) := by decide +kernel
theorem d_R_readFilled_15 : decode m_R_readFilled.2.1 15 = .ok (.invokevirtual 55, 3) := by decide +kernel
theorem d_R_readFilled_18 : decode m_R_readFilled.2.1 18 = .ok (.bipush 69, 2) := by decide +kernel
theorem d_R_readFilled_20 : decode m_R_readFilled.2.1 20 = .ok (.if_icmp .ne 7, 3) := by decide +kernel
theorem d_R_readFilled_23 : decode m_R_readFilled.2.1 23 = .ok (.iconst (-1), 1) := by decide +kernel
theorem d_R_readFilled_24 : decode m_R_readFilled.2.1 24 = .ok (.goto 10, 3) := by decide +kernel
theorem d_R_readFilled_27 : decode m_R_readFilled.2.1 27 = .ok (.aload_n 0, 1) := by decide +kernel
theorem d_R_readFilled_28 : decode m_R_readFilled.2.1 28 = .ok (.iload_n 2, 1) := by decide +kernel
theorem d_R_readFilled_29 : decode m_R_readFilled.2.1 29 = .ok (.iconst 1, 1) := by decide +kernel
theorem d_R_readFilled_30 : decode m_R_readFilled.2.1 30 = .ok (.iadd, 1) := by decide +kernel
theorem d_R_readFilled_31 : decode m_R_readFilled.2.1 31 = .ok (.invokevirtual 143, 3) := by decide +kernel
theorem d_R_readFilled_34 : decode m_R_readFilled.2.1 34 = .ok (.istore 4, 2) := by decide +kernel
theorem d_R_readFilled_36 : decode m_R_readFilled.2.1 36 = .ok (.aload_n 0, 1) := by decide +kernel
theorem d_R_readFilled_37 : decode m_R_readFilled.2.1 37 = .ok (.invokevirtual 55, 3) := by decide +kernel
theorem d_R_readFilled_40 : decode m_R_readFilled.2.1 40 = .ok (.bipush 69, 2) := by decide +kernel
theorem d_R_readFilled_42 : decode m_R_readFilled.2.1 42 = .ok (.if_icmp .ne 7, 3) := by decide +kernel
theorem d_R_readFilled_45 : decode m_R_readFilled.2.1 45 = .ok (.iconst (-1), 1) := by decide +kernel
theorem d_R_readFilled_46 : decode m_R_readFilled.2.1 46 = .ok (.goto 10, 3) := by decide +kernel
theorem d_R_readFilled_49 : decode m_R_readFilled.2.1 49 = .ok (.aload_n 0, 1) := by decide +kernel
theorem d_R_readFilled_50 : decode m_R_readFilled.2.1 50 = .ok (.iload_n 2, 1) := by decide +kernel
theorem d_R_readFilled_51 : decode m_R_readFilled.2.1 51 = .ok (.iconst 1, 1) := by decide +kernel
theorem d_R_readFilled_52 : decode m_R_readFilled.2.1 52 = .ok (.iadd, 1) := by decide +kernel
theorem d_R_readFilled_53 : decode m_R_readFilled.2.1 53 = .ok (.invokevirtual 143, 3) := by decide +kernel
theorem d_R_readFilled_56 : decode m_R_readFilled.2.1 56 = .ok (.istore 5, 2) := by decide +kernel
theorem d_R_readFilled_58 : decode m_R_readFilled.2.1 58 = .ok (.aload_n 0, 1) := by decide +kernel
theorem d_R_readFilled_59 : decode m_R_readFilled.2.1 59 = .ok (.bipush 69, 2) := by decide +kernel
theorem d_R_readFilled_61 : decode m_R_readFilled.2.1 61 = .ok (.invokevirtual 33, 3) := by decide +kernel
theorem d_R_readFilled_64 : decode m_R_readFilled.2.1 64 = .ok (.aload_n 0, 1) := by decide +kernel
theorem d_R_readFilled_65 : decode m_R_readFilled.2.1 65 = .ok (.getfield 18, 3) := by decide +kernel
theorem d_R_readFilled_68 : decode m_R_readFilled.2.1 68 = .ok (.iload_n 1, 1) := by decide +kernel
theorem d_R_readFilled_69 : decode m_R_readFilled.2.1 69 = .ok (.iload_n 3, 1) := by decide +kernel
theorem d_R_readFilled_70 : decode m_R_readFilled.2.1 70 = .ok (.iload 4, 2) := by decide +kernel
theorem d_R_readFilled_72 : decode m_R_readFilled.2.1 72 = .ok (.iload 5, 2) := by decide +kernel
theorem d_R_readFilled_74 : decode m_R_readFilled.2.1 74 = .ok (.invokevirtual 146, 3) := by decide +kernel
theorem d_R_readFilled_77 : decode m_R_readFilled.2.1 77 = .ok (.ireturn, 1) := by decide +kernel
theorem d_R_readArgument_0 : decode m_R_readArgument.2.1 0 = .ok (.aload_n 0, 1) := by decide +kernel
theorem d_R_readArgument_1 : decode m_R_readArgument.2.1 1 = .ok (.invokevirtual 55, 3) := by decide +kernel
theorem d_R_readArgument_4 : decode m_R_readArgument.2.1 4 = .ok (.bipush 76, 2) := by decide +kernel
theorem d_R_readArgument_6 : decode m_R_readArgument.2.1 6 = .ok (.if_icmp .ne 10, 3) := by decide +kernel
theorem d_R_readArgument_9 : decode m_R_readArgument.2.1 9 = .ok (.aload_n 0, 1) := by decide +kernel
theorem d_R_readArgument_10 : decode m_R_readArgument.2.1 10 = .ok (.invokevirtual 149, 3) := by decide +kernel
theorem d_R_readArgument_13 : decode m_R_readArgument.2.1 13 = .ok (.goto 8, 3) := by decide +kernel
theorem d_R_readArgument_16 : decode m_R_readArgument.2.1 16 = .ok (.aload_n 0, 1) := by decide +kernel
theorem d_R_readArgument_17 : decode m_R_readArgument.2.1 17 = .ok (.iload_n 1, 1) := by decide +kernel
theorem d_R_readArgument_18 : decode m_R_readArgument.2.1 18 = .ok (.invokevirtual 45, 3) := by decide +kernel
theorem d_R_readArgument_21 : decode m_R_readArgument.2.1 21 = .ok (.ireturn, 1) := by decide +kernel
theorem d_R_readLiteral_0 : decode m_R_readLiteral.2.1 0 = .ok (.aload_n 0, 1) := by decide +kernel
theorem d_R_readLiteral_1 : decode m_R_readLiteral.2.1 1 = .ok (.bipush 76, 2) := by decide +kernel
theorem d_R_readLiteral_3 : decode m_R_readLiteral.2.1 3 = .ok (.invokevirtual 33, 3) := by decide +kernel
theorem d_R_readLiteral_6 : decode m_R_readLiteral.2.1 6 = .ok (.aload_n 0, 1) := by decide +kernel
theorem d_R_readLiteral_7 : decode m_R_readLiteral.2.1 7 = .ok (.invokevirtual 55, 3) := by decide +kernel
theorem d_R_readLiteral_10 : decode m_R_readLiteral.2.1 10 = .ok (.invokestatic 77, 3) := by decide +kernel
theorem d_R_readLiteral_13 : decode m_R_readLiteral.2.1 13 = .ok (.istore_n 1, 1) := by decide +kernel
theorem d_R_readLiteral_14 : decode m_R_readLiteral.2.1 14 = .ok (.iload_n 1, 1) := by decide +kernel
theorem d_R_readLiteral_15 : decode m_R_readLiteral.2.1 15 = .ok (.iconst (-1), 1) := by decide +kernel
theorem d_R_readLiteral_16 : decode m_R_readLiteral.2.1 16 = .ok (.if_icmp .eq 7, 3) := by decide +kernel
theorem d_R_readLiteral_19 : decode m_R_readLiteral.2.1 19 = .ok (.iconst 1, 1) := by decide +kernel
theorem d_R_readLiteral_20 : decode m_R_readLiteral.2.1 20 = .ok (.goto 4, 3) := by decide +kernel
theorem d_R_readLiteral_23 : decode m_R_readLiteral.2.1 23 = .ok (.iconst 0, 1) := by decide +kernel
theorem d_R_readLiteral_24 : decode m_R_readLiteral.2.1 24 = .ok (.invokestatic 59, 3) := by decide +kernel
theorem d_R_readLiteral_27 : decode m_R_readLiteral.2.1 27 = .ok (.aload_n 0, 1) := by decide +kernel
theorem d_R_readLiteral_28 : decode m_R_readLiteral.2.1 28 = .ok (.dup, 1) := by decide +kernel
theorem d_R_readLiteral_29 : decode m_R_readLiteral.2.1 29 = .ok (.getfield 25, 3) := by decide +kernel
theorem d_R_readLiteral_32 : decode m_R_readLiteral.2.1 32 = .ok (.iconst 1, 1) := by decide +kernel
theorem d_R_readLiteral_33 : decode m_R_readLiteral.2.1 33 = .ok (.iadd, 1) := by decide +kernel
theorem d_R_readLiteral_34 : decode m_R_readLiteral.2.1 34 = .ok (.putfield 25, 3) := by decide +kernel
theorem d_R_readLiteral_37 : decode m_R_readLiteral.2.1 37 = .ok (.aload_n 0, 1) := by decide +kernel
theorem d_R_readLiteral_38 : decode m_R_readLiteral.2.1 38 = .ok (.getfield 18, 3) := by decide +kernel
theorem d_R_readLiteral_41 : decode m_R_readLiteral.2.1 41 = .ok (.iload_n 1, 1) := by decide +kernel
theorem d_R_readLiteral_42 : decode m_R_readLiteral.2.1 42 = .ok (.invokevirtual 80, 3) := by decide +kernel
theorem d_R_readLiteral_45 : decode m_R_readLiteral.2.1 45 = .ok (.istore_n 2, 1) := by decide +kernel
theorem d_R_readLiteral_46 : decode m_R_readLiteral.2.1 46 = .ok (.aload_n 0, 1) := by decide +kernel
theorem d_R_readLiteral_47 : decode m_R_readLiteral.2.1 47 = .ok (.invokevirtual 55, 3) := by decide +kernel
theorem d_R_readLiteral_50 : decode m_R_readLiteral.2.1 50 = .ok (.bipush 110, 2) := by decide +kernel
theorem d_R_readLiteral_52 : decode m_R_readLiteral.2.1 52 = .ok (.if_icmp .ne 7, 3) := by decide +kernel
theorem d_R_readLiteral_55 : decode m_R_readLiteral.2.1 55 = .ok (.iconst 1, 1) := by decide +kernel
theorem d_R_readLiteral_56 : decode m_R_readLiteral.2.1 56 = .ok (.goto 4, 3) := by decide +kernel
theorem d_R_readLiteral_59 : decode m_R_readLiteral.2.1 59 = .ok (.iconst 0, 1) := by decide +kernel
theorem d_R_readLiteral_60 : decode m_R_readLiteral.2.1 60 = .ok (.istore_n 3, 1) := by decide +kernel
theorem d_R_readLiteral_61 : decode m_R_readLiteral.2.1 61 = .ok (.iload_n 3, 1) := by decide +kernel
theorem d_R_readLiteral_62 : decode m_R_readLiteral.2.1 62 = .ok (.ifCond .eq 13, 3) := by decide +kernel
theorem d_R_readLiteral_65 : decode m_R_readLiteral.2.1 65 = .ok (.aload_n 0, 1) := by decide +kernel
theorem d_R_readLiteral_66 : decode m_R_readLiteral.2.1 66 = .ok (.dup, 1) := by decide +kernel
theorem d_R_readLiteral_67 : decode m_R_readLiteral.2.1 67 = .ok (.getfield 25, 3) := by decide +kernel
theorem d_R_readLiteral_70 : decode m_R_readLiteral.2.1 70 = .ok (.iconst 1, 1) := by decide +kernel
theorem d_R_readLiteral_71 : decode m_R_readLiteral.2.1 71 = .ok (.iadd, 1) := by decide +kernel
theorem d_R_readLiteral_72 : decode m_R_readLiteral.2.1 72 = .ok (.putfield 25, 3) := by decide +kernel
theorem d_R_readLiteral_75 : decode m_R_readLiteral.2.1 75 = .ok (.aload_n 0, 1) := by decide +kernel
theorem d_R_readLiteral_76 : decode m_R_readLiteral.2.1 76 = .ok (.bipush 10, 2) := by decide +kernel
theorem d_R_readLiteral_78 : decode m_R_readLiteral.2.1 78 = .ok (.bipush 6, 2) := by decide +kernel
theorem d_R_readLiteral_80 : decode m_R_readLiteral.2.1 80 = .ok (.invokevirtual 112, 3) := by decide +kernel
theorem d_R_readLiteral_83 : decode m_R_readLiteral.2.1 83 = .ok (.istore 4, 2) := by decide +kernel
theorem d_R_readLiteral_85 : decode m_R_readLiteral.2.1 85 = .ok (.iload_n 3, 1) := by decide +kernel
theorem d_R_readLiteral_86 : decode m_R_readLiteral.2.1 86 = .ok (.ifCond .eq 8, 3) := by decide +kernel
theorem d_R_readLiteral_89 : decode m_R_readLiteral.2.1 89 = .ok (.iload 4, 2) := by decide +kernel
theorem d_R_readLiteral_91 : decode m_R_readLiteral.2.1 91 = .ok (.ifCond .eq 7, 3) := by decide +kernel
theorem d_R_readLiteral_94 : decode m_R_readLiteral.2.1 94 = .ok (.iconst 1, 1) := by decide +kernel
theorem d_R_readLiteral_95 : decode m_R_readLiteral.2.1 95 = .ok (.goto 4, 3) := by decide +kernel
theorem d_R_readLiteral_98 : decode m_R_readLiteral.2.1 98 = .ok (.iconst 0, 1) := by decide +kernel
theorem d_R_readLiteral_99 : decode m_R_readLiteral.2.1 99 = .ok (.invokestatic 59, 3) := by decide +kernel
theorem d_R_readLiteral_102 : decode m_R_readLiteral.2.1 102 = .ok (.aload_n 0, 1) := by decide +kernel
theorem d_R_readLiteral_103 : decode m_R_readLiteral.2.1 103 = .ok (.bipush 69, 2) := by decide +kernel
theorem d_R_readLiteral_105 : decode m_R_readLiteral.2.1 105 = .ok (.invokevirtual 33, 3) := by decide +kernel
theorem d_R_readLiteral_108 : decode m_R_readLiteral.2.1 108 = .ok (.aload_n 0, 1) := by decide +kernel
theorem d_R_readLiteral_109 : decode m_R_readLiteral.2.1 109 = .ok (.getfield 18, 3) := by decide +kernel
theorem d_R_readLiteral_112 : decode m_R_readLiteral.2.1 112 = .ok (.iload_n 2, 1) := by decide +kernel
theorem d_R_readLiteral_113 : decode m_R_readLiteral.2.1 113 = .ok (.iload_n 3, 1) := by decide +kernel
theorem d_R_readLiteral_114 : decode m_R_readLiteral.2.1 114 = .ok (.ifCond .eq 9, 3) := by decide +kernel
theorem d_R_readLiteral_117 : decode m_R_readLiteral.2.1 117 = .ok (.iload 4, 2) := by decide +kernel
theorem d_R_readLiteral_119 : decode m_R_readLiteral.2.1 119 = .ok (.ineg, 1) := by decide +kernel
theorem d_R_readLiteral_120 : decode m_R_readLiteral.2.1 120 = .ok (.goto 5, 3) := by decide +kernel
theorem d_R_readLiteral_123 : decode m_R_readLiteral.2.1 123 = .ok (.iload 4, 2) := by decide +kernel
theorem d_R_readLiteral_125 : decode m_R_readLiteral.2.1 125 = .ok (.invokevirtual 152, 3) := by decide +kernel
theorem d_R_readLiteral_128 : decode m_R_readLiteral.2.1 128 = .ok (.ireturn, 1) := by decide +kernel
theorem d_N_builtinOfLetter_0 : decode m_N_builtinOfLetter.2.1 0 = .ok (.iconst 0, 1) := by decide +kernel
theorem d_N_builtinOfLetter_1 : decode m_N_builtinOfLetter.2.1 1 = .ok (.istore_n 1, 1) := by decide +kernel
theorem d_N_builtinOfLetter_2 : decode m_N_builtinOfLetter.2.1 2 = .ok (.iload_n 1, 1) := by decide +kernel
theorem d_N_builtinOfLetter_3 : decode m_N_builtinOfLetter.2.1 3 = .ok (.ldc 138, 2) := by decide +kernel
theorem d_N_builtinOfLetter_5 : decode m_N_builtinOfLetter.2.1 5 = .ok (.invokevirtual 140, 3) := by decide +kernel
theorem d_N_builtinOfLetter_8 : decode m_N_builtinOfLetter.2.1 8 = .ok (.if_icmp .ge 21, 3) := by decide +kernel
theorem d_N_builtinOfLetter_11 : decode m_N_builtinOfLetter.2.1 11 = .ok (.ldc 138, 2) := by decide +kernel
theorem d_N_builtinOfLetter_13 : decode m_N_builtinOfLetter.2.1 13 = .ok (.iload_n 1, 1) := by decide +kernel
theorem d_N_builtinOfLetter_14 : decode m_N_builtinOfLetter.2.1 14 = .ok (.invokevirtual 145, 3) := by decide +kernel
theorem d_N_builtinOfLetter_17 : decode m_N_builtinOfLetter.2.1 17 = .ok (.iload_n 0, 1) := by decide +kernel
theorem d_N_builtinOfLetter_18 : decode m_N_builtinOfLetter.2.1 18 = .ok (.if_icmp .ne 5, 3) := by decide +kernel
theorem d_N_builtinOfLetter_21 : decode m_N_builtinOfLetter.2.1 21 = .ok (.iload_n 1, 1) := by decide +kernel
theorem d_N_builtinOfLetter_22 : decode m_N_builtinOfLetter.2.1 22 = .ok (.ireturn, 1) := by decide +kernel
theorem d_N_builtinOfLetter_23 : decode m_N_builtinOfLetter.2.1 23 = .ok (.iinc 1 1, 3) := by decide +kernel
theorem d_N_builtinOfLetter_26 : decode m_N_builtinOfLetter.2.1 26 = .ok (.goto (-24), 3) := by decide +kernel
theorem d_N_builtinOfLetter_29 : decode m_N_builtinOfLetter.2.1 29 = .ok (.iconst (-1), 1) := by decide +kernel
theorem d_N_builtinOfLetter_30 : decode m_N_builtinOfLetter.2.1 30 = .ok (.ireturn, 1) := by decide +kernel
theorem d_R_readType_0 : decode m_R_readType.2.1 0 = .ok (.iload_n 1, 1) := by decide +kernel
theorem d_R_readType_1 : decode m_R_readType.2.1 1 = .ok (.bipush 16, 2) := by decide +kernel
theorem d_R_readType_3 : decode m_R_readType.2.1 3 = .ok (.if_icmp .gt 7, 3) := by decide +kernel
theorem d_R_readType_6 : decode m_R_readType.2.1 6 = .ok (.iconst 1, 1) := by decide +kernel
theorem d_R_readType_7 : decode m_R_readType.2.1 7 = .ok (.goto 4, 3) := by decide +kernel
theorem d_R_readType_10 : decode m_R_readType.2.1 10 = .ok (.iconst 0, 1) := by decide +kernel
theorem d_R_readType_11 : decode m_R_readType.2.1 11 = .ok (.invokestatic 59, 3) := by decide +kernel
theorem d_R_readType_14 : decode m_R_readType.2.1 14 = .ok (.aload_n 0, 1) := by decide +kernel
theorem d_R_readType_15 : decode m_R_readType.2.1 15 = .ok (.invokevirtual 55, 3) := by decide +kernel
theorem d_R_readType_18 : decode m_R_readType.2.1 18 = .ok (.invokestatic 77, 3) := by decide +kernel
theorem d_R_readType_21 : decode m_R_readType.2.1 21 = .ok (.istore_n 2, 1) := by decide +kernel
theorem d_R_readType_22 : decode m_R_readType.2.1 22 = .ok (.iload_n 2, 1) := by decide +kernel
theorem d_R_readType_23 : decode m_R_readType.2.1 23 = .ok (.iconst (-1), 1) := by decide +kernel
theorem d_R_readType_24 : decode m_R_readType.2.1 24 = .ok (.if_icmp .eq 22, 3) := by decide +kernel
theorem d_R_readType_27 : decode m_R_readType.2.1 27 = .ok (.aload_n 0, 1) := by decide +kernel
theorem d_R_readType_28 : decode m_R_readType.2.1 28 = .ok (.dup, 1) := by decide +kernel
theorem d_R_readType_29 : decode m_R_readType.2.1 29 = .ok (.getfield 25, 3) := by decide +kernel
theorem d_R_readType_32 : decode m_R_readType.2.1 32 = .ok (.iconst 1, 1) := by decide +kernel
theorem d_R_readType_33 : decode m_R_readType.2.1 33 = .ok (.iadd, 1) := by decide +kernel
theorem d_R_readType_34 : decode m_R_readType.2.1 34 = .ok (.putfield 25, 3) := by decide +kernel
theorem d_R_readType_37 : decode m_R_readType.2.1 37 = .ok (.aload_n 0, 1) := by decide +kernel
theorem d_R_readType_38 : decode m_R_readType.2.1 38 = .ok (.getfield 18, 3) := by decide +kernel
theorem d_R_readType_41 : decode m_R_readType.2.1 41 = .ok (.iload_n 2, 1) := by decide +kernel
theorem d_R_readType_42 : decode m_R_readType.2.1 42 = .ok (.invokevirtual 80, 3) := by decide +kernel
theorem d_R_readType_45 : decode m_R_readType.2.1 45 = .ok (.ireturn, 1) := by decide +kernel
theorem d_R_readType_46 : decode m_R_readType.2.1 46 = .ok (.aload_n 0, 1) := by decide +kernel
theorem d_R_readType_47 : decode m_R_readType.2.1 47 = .ok (.invokevirtual 55, 3) := by decide +kernel
theorem d_R_readType_50 : decode m_R_readType.2.1 50 = .ok (.bipush 83, 2) := by decide +kernel
theorem d_R_readType_52 : decode m_R_readType.2.1 52 = .ok (.if_icmp .ne 9, 3) := by decide +kernel
theorem d_R_readType_55 : decode m_R_readType.2.1 55 = .ok (.aload_n 0, 1) := by decide +kernel
theorem d_R_readType_56 : decode m_R_readType.2.1 56 = .ok (.iload_n 1, 1) := by decide +kernel
theorem d_R_readType_57 : decode m_R_readType.2.1 57 = .ok (.invokevirtual 83, 3) := by decide +kernel
theorem d_R_readType_60 : decode m_R_readType.2.1 60 = .ok (.ireturn, 1) := by decide +kernel
theorem d_R_readType_61 : decode m_R_readType.2.1 61 = .ok (.aload_n 0, 1) := by decide +kernel
theorem d_R_readType_62 : decode m_R_readType.2.1 62 = .ok (.iload_n 1, 1) := by decide +kernel
theorem d_R_readType_63 : decode m_R_readType.2.1 63 = .ok (.invokevirtual 86, 3) := by decide +kernel
theorem d_R_readType_66 : decode m_R_readType.2.1 66 = .ok (.istore_n 3, 1) := by decide +kernel
theorem d_R_readType_67 : decode m_R_readType.2.1 67 = .ok (.aload_n 0, 1) := by decide +kernel
theorem d_R_readType_68 : decode m_R_readType.2.1 68 = .ok (.getfield 12, 3) := by decide +kernel
theorem d_R_readType_71 : decode m_R_readType.2.1 71 = .ok (.iload_n 3, 1) := by decide +kernel
theorem d_R_readType_72 : decode m_R_readType.2.1 72 = .ok (.invokevirtual 89, 3) := by decide +kernel
theorem d_R_readType_75 : decode m_R_readType.2.1 75 = .ok (.pop, 1) := by decide +kernel
theorem d_R_readType_76 : decode m_R_readType.2.1 76 = .ok (.iload_n 3, 1) := by decide +kernel
theorem d_R_readType_77 : decode m_R_readType.2.1 77 = .ok (.ireturn, 1) := by decide +kernel
theorem d_R_readToldType_0 : decode m_R_readToldType.2.1 0 = .ok (.aload_n 0, 1) := by decide +kernel
theorem d_R_readToldType_1 : decode m_R_readToldType.2.1 1 = .ok (.invokevirtual 93, 3) := by decide +kernel
theorem d_R_readToldType_4 : decode m_R_readToldType.2.1 4 = .ok (.istore_n 2, 1) := by decide +kernel
theorem d_R_readToldType_5 : decode m_R_readToldType.2.1 5 = .ok (.aload_n 0, 1) := by decide +kernel
theorem d_R_readToldType_6 : decode m_R_readToldType.2.1 6 = .ok (.invokevirtual 55, 3) := by decide +kernel
theorem d_R_readToldType_9 : decode m_R_readToldType.2.1 9 = .ok (.bipush 73, 2) := by decide +kernel
theorem d_R_readToldType_11 : decode m_R_readToldType.2.1 11 = .ok (.if_icmp .eq 5, 3) := by decide +kernel
theorem d_R_readToldType_14 : decode m_R_readToldType.2.1 14 = .ok (.iload_n 2, 1) := by decide +kernel
theorem d_R_readToldType_15 : decode m_R_readToldType.2.1 15 = .ok (.ireturn, 1) := by decide +kernel
theorem d_R_readToldType_16 : decode m_R_readToldType.2.1 16 = .ok (.aload_n 0, 1) := by decide +kernel
theorem d_R_readToldType_17 : decode m_R_readToldType.2.1 17 = .ok (.getfield 18, 3) := by decide +kernel
theorem d_R_readToldType_20 : decode m_R_readToldType.2.1 20 = .ok (.iload_n 2, 1) := by decide +kernel
theorem d_R_readToldType_21 : decode m_R_readToldType.2.1 21 = .ok (.invokevirtual 40, 3) := by decide +kernel
theorem d_R_readToldType_24 : decode m_R_readToldType.2.1 24 = .ok (.iconst 1, 1) := by decide +kernel
theorem d_R_readToldType_25 : decode m_R_readToldType.2.1 25 = .ok (.if_icmp .ne 7, 3) := by decide +kernel
theorem d_R_readToldType_28 : decode m_R_readToldType.2.1 28 = .ok (.iconst 1, 1) := by decide +kernel
theorem d_R_readToldType_29 : decode m_R_readToldType.2.1 29 = .ok (.goto 4, 3) := by decide +kernel
theorem d_R_readToldType_32 : decode m_R_readToldType.2.1 32 = .ok (.iconst 0, 1) := by decide +kernel
theorem d_R_readToldType_33 : decode m_R_readToldType.2.1 33 = .ok (.invokestatic 59, 3) := by decide +kernel
theorem d_R_readToldType_36 : decode m_R_readToldType.2.1 36 = .ok (.aload_n 0, 1) := by decide +kernel
theorem d_R_readToldType_37 : decode m_R_readToldType.2.1 37 = .ok (.iload_n 2, 1) := by decide +kernel
theorem d_R_readToldType_38 : decode m_R_readToldType.2.1 38 = .ok (.iload_n 1, 1) := by decide +kernel
theorem d_R_readToldType_39 : decode m_R_readToldType.2.1 39 = .ok (.invokevirtual 96, 3) := by decide +kernel
theorem d_R_readToldType_42 : decode m_R_readToldType.2.1 42 = .ok (.istore_n 3, 1) := by decide +kernel
theorem d_R_readToldType_43 : decode m_R_readToldType.2.1 43 = .ok (.aload_n 0, 1) := by decide +kernel
theorem d_R_readToldType_44 : decode m_R_readToldType.2.1 44 = .ok (.getfield 12, 3) := by decide +kernel
theorem d_R_readToldType_47 : decode m_R_readToldType.2.1 47 = .ok (.iload_n 3, 1) := by decide +kernel
theorem d_R_readToldType_48 : decode m_R_readToldType.2.1 48 = .ok (.invokevirtual 89, 3) := by decide +kernel
theorem d_R_readToldType_51 : decode m_R_readToldType.2.1 51 = .ok (.pop, 1) := by decide +kernel
theorem d_R_readToldType_52 : decode m_R_readToldType.2.1 52 = .ok (.iload_n 3, 1) := by decide +kernel
theorem d_R_readToldType_53 : decode m_R_readToldType.2.1 53 = .ok (.ireturn, 1) := by decide +kernel
theorem d_R_readUntold_0 : decode m_R_readUntold.2.1 0 = .ok (.aload_n 0, 1) := by decide +kernel
theorem d_R_readUntold_1 : decode m_R_readUntold.2.1 1 = .ok (.invokevirtual 55, 3) := by decide +kernel
theorem d_R_readUntold_4 : decode m_R_readUntold.2.1 4 = .ok (.lookupswitch 86 #[(65, 74), (70, 80), (75, 66), (80, 52), (82, 59)], 52) := by decide +kernel
theorem d_R_readUntold_56 : decode m_R_readUntold.2.1 56 = .ok (.aload_n 0, 1) := by decide +kernel
theorem d_R_readUntold_57 : decode m_R_readUntold.2.1 57 = .ok (.iconst 4, 1) := by decide +kernel
theorem d_R_readUntold_58 : decode m_R_readUntold.2.1 58 = .ok (.iload_n 1, 1) := by decide +kernel
theorem d_R_readUntold_59 : decode m_R_readUntold.2.1 59 = .ok (.invokevirtual 100, 3) := by decide +kernel
theorem d_R_readUntold_62 : decode m_R_readUntold.2.1 62 = .ok (.ireturn, 1) := by decide +kernel
theorem d_R_readUntold_63 : decode m_R_readUntold.2.1 63 = .ok (.aload_n 0, 1) := by decide +kernel
theorem d_R_readUntold_64 : decode m_R_readUntold.2.1 64 = .ok (.iconst 5, 1) := by decide +kernel
theorem d_R_readUntold_65 : decode m_R_readUntold.2.1 65 = .ok (.iload_n 1, 1) := by decide +kernel
theorem d_R_readUntold_66 : decode m_R_readUntold.2.1 66 = .ok (.invokevirtual 100, 3) := by decide +kernel
theorem d_R_readUntold_69 : decode m_R_readUntold.2.1 69 = .ok (.ireturn, 1) := by decide +kernel
theorem d_R_readUntold_70 : decode m_R_readUntold.2.1 70 = .ok (.aload_n 0, 1) := by decide +kernel
theorem d_R_readUntold_71 : decode m_R_readUntold.2.1 71 = .ok (.bipush 6, 2) := by decide +kernel
theorem d_R_readUntold_73 : decode m_R_readUntold.2.1 73 = .ok (.iload_n 1, 1) := by decide +kernel
theorem d_R_readUntold_74 : decode m_R_readUntold.2.1 74 = .ok (.invokevirtual 100, 3) := by decide +kernel
theorem d_R_readUntold_77 : decode m_R_readUntold.2.1 77 = .ok (.ireturn, 1) := by decide +kernel
theorem d_R_readUntold_78 : decode m_R_readUntold.2.1 78 = .ok (.aload_n 0, 1) := by decide +kernel
theorem d_R_readUntold_79 : decode m_R_readUntold.2.1 79 = .ok (.iload_n 1, 1) := by decide +kernel
theorem d_R_readUntold_80 : decode m_R_readUntold.2.1 80 = .ok (.invokevirtual 103, 3) := by decide +kernel
theorem d_R_readUntold_83 : decode m_R_readUntold.2.1 83 = .ok (.ireturn, 1) := by decide +kernel
theorem d_R_readUntold_84 : decode m_R_readUntold.2.1 84 = .ok (.aload_n 0, 1) := by decide +kernel
theorem d_R_readUntold_85 : decode m_R_readUntold.2.1 85 = .ok (.iload_n 1, 1) := by decide +kernel
theorem d_R_readUntold_86 : decode m_R_readUntold.2.1 86 = .ok (.invokevirtual 106, 3) := by decide +kernel
theorem d_R_readUntold_89 : decode m_R_readUntold.2.1 89 = .ok (.ireturn, 1) := by decide +kernel
theorem d_R_readUntold_90 : decode m_R_readUntold.2.1 90 = .ok (.aload_n 0, 1) := by decide +kernel
theorem d_R_readUntold_91 : decode m_R_readUntold.2.1 91 = .ok (.iload_n 1, 1) := by decide +kernel
theorem d_R_readUntold_92 : decode m_R_readUntold.2.1 92 = .ok (.invokevirtual 36, 3) := by decide +kernel
theorem d_R_readUntold_95 : decode m_R_readUntold.2.1 95 = .ok (.ireturn, 1) := by decide +kernel
theorem d_R_readWrapped_0 : decode m_R_readWrapped.2.1 0 = .ok (.aload_n 0, 1) := by decide +kernel
theorem d_R_readWrapped_1 : decode m_R_readWrapped.2.1 1 = .ok (.dup, 1) := by decide +kernel
theorem d_R_readWrapped_2 : decode m_R_readWrapped.2.1 2 = .ok (.getfield 25, 3) := by decide +kernel
theorem d_R_readWrapped_5 : decode m_R_readWrapped.2.1 5 = .ok (.iconst 1, 1) := by decide +kernel
theorem d_R_readWrapped_6 : decode m_R_readWrapped.2.1 6 = .ok (.iadd, 1) := by decide +kernel
theorem d_R_readWrapped_7 : decode m_R_readWrapped.2.1 7 = .ok (.putfield 25, 3) := by decide +kernel
theorem d_R_readWrapped_10 : decode m_R_readWrapped.2.1 10 = .ok (.aload_n 0, 1) := by decide +kernel
theorem d_R_readWrapped_11 : decode m_R_readWrapped.2.1 11 = .ok (.getfield 18, 3) := by decide +kernel
theorem d_R_readWrapped_14 : decode m_R_readWrapped.2.1 14 = .ok (.iload_n 1, 1) := by decide +kernel
theorem d_R_readWrapped_15 : decode m_R_readWrapped.2.1 15 = .ok (.aload_n 0, 1) := by decide +kernel
theorem d_R_readWrapped_16 : decode m_R_readWrapped.2.1 16 = .ok (.iload_n 2, 1) := by decide +kernel
theorem d_R_readWrapped_17 : decode m_R_readWrapped.2.1 17 = .ok (.iconst 1, 1) := by decide +kernel
theorem d_R_readWrapped_18 : decode m_R_readWrapped.2.1 18 = .ok (.iadd, 1) := by decide +kernel
theorem d_R_readWrapped_19 : decode m_R_readWrapped.2.1 19 = .ok (.invokevirtual 45, 3) := by decide +kernel
theorem d_R_readWrapped_22 : decode m_R_readWrapped.2.1 22 = .ok (.invokevirtual 109, 3) := by decide +kernel
theorem d_R_readWrapped_25 : decode m_R_readWrapped.2.1 25 = .ok (.ireturn, 1) := by decide +kernel
theorem d_R_readArray_0 : decode m_R_readArray.2.1 0 = .ok (.aload_n 0, 1) := by decide +kernel
theorem d_R_readArray_1 : decode m_R_readArray.2.1 1 = .ok (.bipush 65, 2) := by decide +kernel
theorem d_R_readArray_3 : decode m_R_readArray.2.1 3 = .ok (.invokevirtual 33, 3) := by decide +kernel
theorem d_R_readArray_6 : decode m_R_readArray.2.1 6 = .ok (.aload_n 0, 1) := by decide +kernel
theorem d_R_readArray_7 : decode m_R_readArray.2.1 7 = .ok (.bipush 10, 2) := by decide +kernel
theorem d_R_readArray_9 : decode m_R_readArray.2.1 9 = .ok (.iconst 3, 1) := by decide +kernel
theorem d_R_readArray_10 : decode m_R_readArray.2.1 10 = .ok (.invokevirtual 112, 3) := by decide +kernel
theorem d_R_readArray_13 : decode m_R_readArray.2.1 13 = .ok (.istore_n 2, 1) := by decide +kernel
theorem d_R_readArray_14 : decode m_R_readArray.2.1 14 = .ok (.aload_n 0, 1) := by decide +kernel
theorem d_R_readArray_15 : decode m_R_readArray.2.1 15 = .ok (.bipush 95, 2) := by decide +kernel
theorem d_R_readArray_17 : decode m_R_readArray.2.1 17 = .ok (.invokevirtual 33, 3) := by decide +kernel
theorem d_R_readArray_20 : decode m_R_readArray.2.1 20 = .ok (.aload_n 0, 1) := by decide +kernel
theorem d_R_readArray_21 : decode m_R_readArray.2.1 21 = .ok (.getfield 18, 3) := by decide +kernel
theorem d_R_readArray_24 : decode m_R_readArray.2.1 24 = .ok (.aload_n 0, 1) := by decide +kernel
theorem d_R_readArray_25 : decode m_R_readArray.2.1 25 = .ok (.iload_n 1, 1) := by decide +kernel
theorem d_R_readArray_26 : decode m_R_readArray.2.1 26 = .ok (.iconst 1, 1) := by decide +kernel
theorem d_R_readArray_27 : decode m_R_readArray.2.1 27 = .ok (.iadd, 1) := by decide +kernel
theorem d_R_readArray_28 : decode m_R_readArray.2.1 28 = .ok (.invokevirtual 45, 3) := by decide +kernel
theorem d_R_readArray_31 : decode m_R_readArray.2.1 31 = .ok (.iload_n 2, 1) := by decide +kernel
theorem d_R_readArray_32 : decode m_R_readArray.2.1 32 = .ok (.invokevirtual 115, 3) := by decide +kernel
theorem d_R_readArray_35 : decode m_R_readArray.2.1 35 = .ok (.ireturn, 1) := by decide +kernel
theorem d_R_readFunction_0 : decode m_R_readFunction.2.1 0 = .ok (.aload_n 0, 1) := by decide +kernel
theorem d_R_readFunction_1 : decode m_R_readFunction.2.1 1 = .ok (.bipush 70, 2) := by decide +kernel
theorem d_R_readFunction_3 : decode m_R_readFunction.2.1 3 = .ok (.invokevirtual 33, 3) := by decide +kernel
theorem d_R_readFunction_6 : decode m_R_readFunction.2.1 6 = .ok (.aload_n 0, 1) := by decide +kernel
theorem d_R_readFunction_7 : decode m_R_readFunction.2.1 7 = .ok (.iload_n 1, 1) := by decide +kernel
theorem d_R_readFunction_8 : decode m_R_readFunction.2.1 8 = .ok (.iconst 1, 1) := by decide +kernel
theorem d_R_readFunction_9 : decode m_R_readFunction.2.1 9 = .ok (.iadd, 1) := by decide +kernel
theorem d_R_readFunction_10 : decode m_R_readFunction.2.1 10 = .ok (.invokevirtual 45, 3) := by decide +kernel
theorem d_R_readFunction_13 : decode m_R_readFunction.2.1 13 = .ok (.istore_n 2, 1) := by decide +kernel
theorem d_R_readFunction_14 : decode m_R_readFunction.2.1 14 = .ok (.aload_n 0, 1) := by decide +kernel
theorem d_R_readFunction_15 : decode m_R_readFunction.2.1 15 = .ok (.iload_n 1, 1) := by decide +kernel
theorem d_R_readFunction_16 : decode m_R_readFunction.2.1 16 = .ok (.iconst 1, 1) := by decide +kernel
theorem d_R_readFunction_17 : decode m_R_readFunction.2.1 17 = .ok (.iadd, 1) := by decide +kernel
theorem d_R_readFunction_18 : decode m_R_readFunction.2.1 18 = .ok (.invokevirtual 48, 3) := by decide +kernel
theorem d_R_readFunction_21 : decode m_R_readFunction.2.1 21 = .ok (.istore_n 3, 1) := by decide +kernel
theorem d_R_readFunction_22 : decode m_R_readFunction.2.1 22 = .ok (.aload_n 0, 1) := by decide +kernel
theorem d_R_readFunction_23 : decode m_R_readFunction.2.1 23 = .ok (.iload_n 3, 1) := by decide +kernel
theorem d_R_readFunction_24 : decode m_R_readFunction.2.1 24 = .ok (.bipush 69, 2) := by decide +kernel
theorem d_R_readFunction_26 : decode m_R_readFunction.2.1 26 = .ok (.iload_n 1, 1) := by decide +kernel
theorem d_R_readFunction_27 : decode m_R_readFunction.2.1 27 = .ok (.iconst 1, 1) := by decide +kernel
theorem d_R_readFunction_28 : decode m_R_readFunction.2.1 28 = .ok (.iadd, 1) := by decide +kernel
theorem d_R_readFunction_29 : decode m_R_readFunction.2.1 29 = .ok (.invokevirtual 51, 3) := by decide +kernel
theorem d_R_readFunction_32 : decode m_R_readFunction.2.1 32 = .ok (.istore 4, 2) := by decide +kernel
theorem d_R_readFunction_34 : decode m_R_readFunction.2.1 34 = .ok (.aload_n 0, 1) := by decide +kernel
theorem d_R_readFunction_35 : decode m_R_readFunction.2.1 35 = .ok (.iload 4, 2) := by decide +kernel
theorem d_R_readFunction_37 : decode m_R_readFunction.2.1 37 = .ok (.bipush 69, 2) := by decide +kernel
theorem d_R_readFunction_39 : decode m_R_readFunction.2.1 39 = .ok (.iload_n 1, 1) := by decide +kernel
theorem d_R_readFunction_40 : decode m_R_readFunction.2.1 40 = .ok (.iconst 1, 1) := by decide +kernel
theorem d_R_readFunction_41 : decode m_R_readFunction.2.1 41 = .ok (.iadd, 1) := by decide +kernel
theorem d_R_readFunction_42 : decode m_R_readFunction.2.1 42 = .ok (.invokevirtual 51, 3) := by decide +kernel
theorem d_R_readFunction_45 : decode m_R_readFunction.2.1 45 = .ok (.istore 5, 2) := by decide +kernel
theorem d_R_readFunction_47 : decode m_R_readFunction.2.1 47 = .ok (.aload_n 0, 1) := by decide +kernel
theorem d_R_readFunction_48 : decode m_R_readFunction.2.1 48 = .ok (.bipush 69, 2) := by decide +kernel
theorem d_R_readFunction_50 : decode m_R_readFunction.2.1 50 = .ok (.invokevirtual 33, 3) := by decide +kernel
theorem d_R_readFunction_53 : decode m_R_readFunction.2.1 53 = .ok (.aload_n 0, 1) := by decide +kernel
theorem d_R_readFunction_54 : decode m_R_readFunction.2.1 54 = .ok (.getfield 18, 3) := by decide +kernel
theorem d_R_readFunction_57 : decode m_R_readFunction.2.1 57 = .ok (.iload_n 2, 1) := by decide +kernel
theorem d_R_readFunction_58 : decode m_R_readFunction.2.1 58 = .ok (.iload_n 3, 1) := by decide +kernel
theorem d_R_readFunction_59 : decode m_R_readFunction.2.1 59 = .ok (.iload 4, 2) := by decide +kernel
theorem d_R_readFunction_61 : decode m_R_readFunction.2.1 61 = .ok (.iload 5, 2) := by decide +kernel
theorem d_R_readFunction_63 : decode m_R_readFunction.2.1 63 = .ok (.invokevirtual 118, 3) := by decide +kernel
theorem d_R_readFunction_66 : decode m_R_readFunction.2.1 66 = .ok (.ireturn, 1) := by decide +kernel
theorem d_R_readFirstParameter_0 : decode m_R_readFirstParameter.2.1 0 = .ok (.aload_n 0, 1) := by decide +kernel
theorem d_R_readFirstParameter_1 : decode m_R_readFirstParameter.2.1 1 = .ok (.invokevirtual 55, 3) := by decide +kernel
theorem d_R_readFirstParameter_4 : decode m_R_readFirstParameter.2.1 4 = .ok (.bipush 118, 2) := by decide +kernel
theorem d_R_readFirstParameter_6 : decode m_R_readFirstParameter.2.1 6 = .ok (.if_icmp .ne 15, 3) := by decide +kernel
theorem d_R_readFirstParameter_9 : decode m_R_readFirstParameter.2.1 9 = .ok (.aload_n 0, 1) := by decide +kernel
theorem d_R_readFirstParameter_10 : decode m_R_readFirstParameter.2.1 10 = .ok (.dup, 1) := by decide +kernel
theorem d_R_readFirstParameter_11 : decode m_R_readFirstParameter.2.1 11 = .ok (.getfield 25, 3) := by decide +kernel
theorem d_R_readFirstParameter_14 : decode m_R_readFirstParameter.2.1 14 = .ok (.iconst 1, 1) := by decide +kernel
theorem d_R_readFirstParameter_15 : decode m_R_readFirstParameter.2.1 15 = .ok (.iadd, 1) := by decide +kernel
theorem d_R_readFirstParameter_16 : decode m_R_readFirstParameter.2.1 16 = .ok (.putfield 25, 3) := by decide +kernel
theorem d_R_readFirstParameter_19 : decode m_R_readFirstParameter.2.1 19 = .ok (.iconst (-1), 1) := by decide +kernel
theorem d_R_readFirstParameter_20 : decode m_R_readFirstParameter.2.1 20 = .ok (.ireturn, 1) := by decide +kernel
theorem d_R_readFirstParameter_21 : decode m_R_readFirstParameter.2.1 21 = .ok (.aload_n 0, 1) := by decide +kernel
theorem d_R_readFirstParameter_22 : decode m_R_readFirstParameter.2.1 22 = .ok (.iload_n 1, 1) := by decide +kernel
theorem d_R_readFirstParameter_23 : decode m_R_readFirstParameter.2.1 23 = .ok (.invokevirtual 45, 3) := by decide +kernel
theorem d_R_readFirstParameter_26 : decode m_R_readFirstParameter.2.1 26 = .ok (.ireturn, 1) := by decide +kernel
theorem d_R_readNextParameter_0 : decode m_R_readNextParameter.2.1 0 = .ok (.iload_n 1, 1) := by decide +kernel
theorem d_R_readNextParameter_1 : decode m_R_readNextParameter.2.1 1 = .ok (.iconst (-1), 1) := by decide +kernel
theorem d_R_readNextParameter_2 : decode m_R_readNextParameter.2.1 2 = .ok (.if_icmp .eq 11, 3) := by decide +kernel
theorem d_R_readNextParameter_5 : decode m_R_readNextParameter.2.1 5 = .ok (.aload_n 0, 1) := by decide +kernel
theorem d_R_readNextParameter_6 : decode m_R_readNextParameter.2.1 6 = .ok (.invokevirtual 55, 3) := by decide +kernel
theorem d_R_readNextParameter_9 : decode m_R_readNextParameter.2.1 9 = .ok (.iload_n 2, 1) := by decide +kernel
theorem d_R_readNextParameter_10 : decode m_R_readNextParameter.2.1 10 = .ok (.if_icmp .ne 7, 3) := by decide +kernel
theorem d_R_readNextParameter_13 : decode m_R_readNextParameter.2.1 13 = .ok (.iconst (-1), 1) := by decide +kernel
theorem d_R_readNextParameter_14 : decode m_R_readNextParameter.2.1 14 = .ok (.goto 8, 3) := by decide +kernel
theorem d_R_readNextParameter_17 : decode m_R_readNextParameter.2.1 17 = .ok (.aload_n 0, 1) := by decide +kernel
theorem d_R_readNextParameter_18 : decode m_R_readNextParameter.2.1 18 = .ok (.iload_n 3, 1) := by decide +kernel
theorem d_R_readNextParameter_19 : decode m_R_readNextParameter.2.1 19 = .ok (.invokevirtual 45, 3) := by decide +kernel
theorem d_R_readNextParameter_22 : decode m_R_readNextParameter.2.1 22 = .ok (.ireturn, 1) := by decide +kernel
theorem d_M_init_0 : decode m_M_init.2.1 0 = .ok (.aload_n 0, 1) := by decide +kernel
theorem d_M_init_1 : decode m_M_init.2.1 1 = .ok (.invokespecial 1, 3) := by decide +kernel
theorem d_M_init_4 : decode m_M_init.2.1 4 = .ok (.aload_n 0, 1) := by decide +kernel
theorem d_M_init_5 : decode m_M_init.2.1 5 = .ok (.sipush 320, 3) := by decide +kernel
theorem d_M_init_8 : decode m_M_init.2.1 8 = .ok (.newarray .int, 2) := by decide +kernel
theorem d_M_init_10 : decode m_M_init.2.1 10 = .ok (.putfield 7, 3) := by decide +kernel
theorem d_M_init_13 : decode m_M_init.2.1 13 = .ok (.aload_n 0, 1) := by decide +kernel
theorem d_M_init_14 : decode m_M_init.2.1 14 = .ok (.sipush 320, 3) := by decide +kernel
theorem d_M_init_17 : decode m_M_init.2.1 17 = .ok (.newarray .int, 2) := by decide +kernel
theorem d_M_init_19 : decode m_M_init.2.1 19 = .ok (.putfield 13, 3) := by decide +kernel
theorem d_M_init_22 : decode m_M_init.2.1 22 = .ok (.aload_n 0, 1) := by decide +kernel
theorem d_M_init_23 : decode m_M_init.2.1 23 = .ok (.sipush 320, 3) := by decide +kernel
theorem d_M_init_26 : decode m_M_init.2.1 26 = .ok (.newarray .int, 2) := by decide +kernel
theorem d_M_init_28 : decode m_M_init.2.1 28 = .ok (.putfield 16, 3) := by decide +kernel
theorem d_M_init_31 : decode m_M_init.2.1 31 = .ok (.aload_n 0, 1) := by decide +kernel
theorem d_M_init_32 : decode m_M_init.2.1 32 = .ok (.sipush 320, 3) := by decide +kernel
theorem d_M_init_35 : decode m_M_init.2.1 35 = .ok (.newarray .int, 2) := by decide +kernel
theorem d_M_init_37 : decode m_M_init.2.1 37 = .ok (.putfield 19, 3) := by decide +kernel
theorem d_M_init_40 : decode m_M_init.2.1 40 = .ok (.aload_n 0, 1) := by decide +kernel
theorem d_M_init_41 : decode m_M_init.2.1 41 = .ok (.sipush 960, 3) := by decide +kernel
theorem d_M_init_44 : decode m_M_init.2.1 44 = .ok (.newarray .int, 2) := by decide +kernel
theorem d_M_init_46 : decode m_M_init.2.1 46 = .ok (.putfield 22, 3) := by decide +kernel
theorem d_M_init_49 : decode m_M_init.2.1 49 = .ok (.aload_n 0, 1) := by decide +kernel
theorem d_M_init_50 : decode m_M_init.2.1 50 = .ok (.sipush 320, 3) := by decide +kernel
theorem d_M_init_53 : decode m_M_init.2.1 53 = .ok (.newarray .int, 2) := by decide +kernel
theorem d_M_init_55 : decode m_M_init.2.1 55 = .ok (.putfield 25, 3) := by decide +kernel
theorem d_M_init_58 : decode m_M_init.2.1 58 = .ok (.aload_n 0, 1) := by decide +kernel
theorem d_M_init_59 : decode m_M_init.2.1 59 = .ok (.bipush 120, 2) := by decide +kernel
theorem d_M_init_61 : decode m_M_init.2.1 61 = .ok (.newarray .int, 2) := by decide +kernel
theorem d_M_init_63 : decode m_M_init.2.1 63 = .ok (.putfield 28, 3) := by decide +kernel
theorem d_M_init_66 : decode m_M_init.2.1 66 = .ok (.aload_n 0, 1) := by decide +kernel
theorem d_M_init_67 : decode m_M_init.2.1 67 = .ok (.bipush 120, 2) := by decide +kernel
theorem d_M_init_69 : decode m_M_init.2.1 69 = .ok (.newarray .int, 2) := by decide +kernel
theorem d_M_init_71 : decode m_M_init.2.1 71 = .ok (.putfield 31, 3) := by decide +kernel
theorem d_M_init_74 : decode m_M_init.2.1 74 = .ok (.aload_n 0, 1) := by decide +kernel
theorem d_M_init_75 : decode m_M_init.2.1 75 = .ok (.sipush 320, 3) := by decide +kernel
theorem d_M_init_78 : decode m_M_init.2.1 78 = .ok (.newarray .int, 2) := by decide +kernel
theorem d_M_init_80 : decode m_M_init.2.1 80 = .ok (.putfield 34, 3) := by decide +kernel
theorem d_M_init_83 : decode m_M_init.2.1 83 = .ok (.aload_n 0, 1) := by decide +kernel
theorem d_M_init_84 : decode m_M_init.2.1 84 = .ok (.sipush 320, 3) := by decide +kernel
theorem d_M_init_87 : decode m_M_init.2.1 87 = .ok (.newarray .int, 2) := by decide +kernel
theorem d_M_init_89 : decode m_M_init.2.1 89 = .ok (.putfield 37, 3) := by decide +kernel
theorem d_M_init_92 : decode m_M_init.2.1 92 = .ok (.aload_n 0, 1) := by decide +kernel
theorem d_M_init_93 : decode m_M_init.2.1 93 = .ok (.sipush 400, 3) := by decide +kernel
theorem d_M_init_96 : decode m_M_init.2.1 96 = .ok (.newarray .int, 2) := by decide +kernel
theorem d_M_init_98 : decode m_M_init.2.1 98 = .ok (.putfield 40, 3) := by decide +kernel
theorem d_M_init_101 : decode m_M_init.2.1 101 = .ok (.aload_n 0, 1) := by decide +kernel
theorem d_M_init_102 : decode m_M_init.2.1 102 = .ok (.sipush 400, 3) := by decide +kernel
theorem d_M_init_105 : decode m_M_init.2.1 105 = .ok (.newarray .int, 2) := by decide +kernel
theorem d_M_init_107 : decode m_M_init.2.1 107 = .ok (.putfield 43, 3) := by decide +kernel
theorem d_M_init_110 : decode m_M_init.2.1 110 = .ok (.aload_n 0, 1) := by decide +kernel
theorem d_M_init_111 : decode m_M_init.2.1 111 = .ok (.sipush 400, 3) := by decide +kernel
theorem d_M_init_114 : decode m_M_init.2.1 114 = .ok (.newarray .int, 2) := by decide +kernel
theorem d_M_init_116 : decode m_M_init.2.1 116 = .ok (.putfield 46, 3) := by decide +kernel
theorem d_M_init_119 : decode m_M_init.2.1 119 = .ok (.aload_n 0, 1) := by decide +kernel
theorem d_M_init_120 : decode m_M_init.2.1 120 = .ok (.sipush 1200, 3) := by decide +kernel
theorem d_M_init_123 : decode m_M_init.2.1 123 = .ok (.newarray .int, 2) := by decide +kernel
theorem d_M_init_125 : decode m_M_init.2.1 125 = .ok (.putfield 49, 3) := by decide +kernel
theorem d_M_init_128 : decode m_M_init.2.1 128 = .ok (.return_, 1) := by decide +kernel
theorem d_M_thrown_0 : decode m_M_thrown.2.1 0 = .ok (.aload_n 0, 1) := by decide +kernel
theorem d_M_thrown_1 : decode m_M_thrown.2.1 1 = .ok (.getfield 52, 3) := by decide +kernel
theorem d_M_thrown_4 : decode m_M_thrown.2.1 4 = .ok (.ireturn, 1) := by decide +kernel
theorem d_M_builtin_0 : decode m_M_builtin.2.1 0 = .ok (.aload_n 0, 1) := by decide +kernel
theorem d_M_builtin_1 : decode m_M_builtin.2.1 1 = .ok (.iload_n 1, 1) := by decide +kernel
theorem d_M_builtin_2 : decode m_M_builtin.2.1 2 = .ok (.ifCond .lt 9, 3) := by decide +kernel
theorem d_M_builtin_5 : decode m_M_builtin.2.1 5 = .ok (.iload_n 1, 1) := by decide +kernel
theorem d_M_builtin_6 : decode m_M_builtin.2.1 6 = .ok (.bipush 7, 2) := by decide +kernel
theorem d_M_builtin_8 : decode m_M_builtin.2.1 8 = .ok (.if_icmp .le 7, 3) := by decide +kernel
theorem d_M_builtin_11 : decode m_M_builtin.2.1 11 = .ok (.iconst 1, 1) := by decide +kernel
theorem d_M_builtin_12 : decode m_M_builtin.2.1 12 = .ok (.goto 4, 3) := by decide +kernel
theorem d_M_builtin_15 : decode m_M_builtin.2.1 15 = .ok (.iconst 0, 1) := by decide +kernel
theorem d_M_builtin_16 : decode m_M_builtin.2.1 16 = .ok (.putfield 52, 3) := by decide +kernel
theorem d_M_builtin_19 : decode m_M_builtin.2.1 19 = .ok (.aload_n 0, 1) := by decide +kernel
theorem d_M_builtin_20 : decode m_M_builtin.2.1 20 = .ok (.getfield 52, 3) := by decide +kernel
theorem d_M_builtin_23 : decode m_M_builtin.2.1 23 = .ok (.ifCond .le 7, 3) := by decide +kernel
theorem d_M_builtin_26 : decode m_M_builtin.2.1 26 = .ok (.iconst 0, 1) := by decide +kernel
theorem d_M_builtin_27 : decode m_M_builtin.2.1 27 = .ok (.goto 14, 3) := by decide +kernel
theorem d_M_builtin_30 : decode m_M_builtin.2.1 30 = .ok (.aload_n 0, 1) := by decide +kernel
theorem d_M_builtin_31 : decode m_M_builtin.2.1 31 = .ok (.iconst 0, 1) := by decide +kernel
theorem d_M_builtin_32 : decode m_M_builtin.2.1 32 = .ok (.iload_n 1, 1) := by decide +kernel
theorem d_M_builtin_33 : decode m_M_builtin.2.1 33 = .ok (.iconst (-1), 1) := by decide +kernel
theorem d_M_builtin_34 : decode m_M_builtin.2.1 34 = .ok (.iconst (-1), 1) := by decide +kernel
theorem d_M_builtin_35 : decode m_M_builtin.2.1 35 = .ok (.iconst (-1), 1) := by decide +kernel
theorem d_M_builtin_36 : decode m_M_builtin.2.1 36 = .ok (.iconst (-1), 1) := by decide +kernel
theorem d_M_builtin_37 : decode m_M_builtin.2.1 37 = .ok (.iconst (-1), 1) := by decide +kernel
theorem d_M_builtin_38 : decode m_M_builtin.2.1 38 = .ok (.invokevirtual 77, 3) := by decide +kernel
theorem d_M_builtin_41 : decode m_M_builtin.2.1 41 = .ok (.ireturn, 1) := by decide +kernel
theorem d_M_give_0 : decode m_M_give.2.1 0 = .ok (.aload_n 0, 1) := by decide +kernel
theorem d_M_give_1 : decode m_M_give.2.1 1 = .ok (.aload_n 0, 1) := by decide +kernel
theorem d_M_give_2 : decode m_M_give.2.1 2 = .ok (.getfield 56, 3) := by decide +kernel
theorem d_M_give_5 : decode m_M_give.2.1 5 = .ok (.putfield 66, 3) := by decide +kernel
theorem d_M_give_8 : decode m_M_give.2.1 8 = .ok (.aload_n 0, 1) := by decide +kernel
theorem d_M_give_9 : decode m_M_give.2.1 9 = .ok (.iload_n 1, 1) := by decide +kernel
theorem d_M_give_10 : decode m_M_give.2.1 10 = .ok (.iload_n 2, 1) := by decide +kernel
theorem d_M_give_11 : decode m_M_give.2.1 11 = .ok (.iload_n 3, 1) := by decide +kernel
theorem d_M_give_12 : decode m_M_give.2.1 12 = .ok (.iload 4, 2) := by decide +kernel
theorem d_M_give_14 : decode m_M_give.2.1 14 = .ok (.iload 5, 2) := by decide +kernel
theorem d_M_give_16 : decode m_M_give.2.1 16 = .ok (.iload 6, 2) := by decide +kernel
theorem d_M_give_18 : decode m_M_give.2.1 18 = .ok (.iload 7, 2) := by decide +kernel
theorem d_M_give_20 : decode m_M_give.2.1 20 = .ok (.invokevirtual 73, 3) := by decide +kernel
theorem d_M_give_23 : decode m_M_give.2.1 23 = .ok (.istore 8, 2) := by decide +kernel
theorem d_M_give_25 : decode m_M_give.2.1 25 = .ok (.aload_n 0, 1) := by decide +kernel
theorem d_M_give_26 : decode m_M_give.2.1 26 = .ok (.aload_n 0, 1) := by decide +kernel
theorem d_M_give_27 : decode m_M_give.2.1 27 = .ok (.getfield 56, 3) := by decide +kernel
theorem d_M_give_30 : decode m_M_give.2.1 30 = .ok (.putfield 66, 3) := by decide +kernel
theorem d_M_give_33 : decode m_M_give.2.1 33 = .ok (.aload_n 0, 1) := by decide +kernel
theorem d_M_give_34 : decode m_M_give.2.1 34 = .ok (.aload_n 0, 1) := by decide +kernel
theorem d_M_give_35 : decode m_M_give.2.1 35 = .ok (.getfield 25, 3) := by decide +kernel
theorem d_M_give_38 : decode m_M_give.2.1 38 = .ok (.iload 8, 2) := by decide +kernel
theorem d_M_give_40 : decode m_M_give.2.1 40 = .ok (.iaload, 1) := by decide +kernel
theorem d_M_give_41 : decode m_M_give.2.1 41 = .ok (.bipush 16, 2) := by decide +kernel
theorem d_M_give_43 : decode m_M_give.2.1 43 = .ok (.if_icmp .le 7, 3) := by decide +kernel
theorem d_M_give_46 : decode m_M_give.2.1 46 = .ok (.iconst 1, 1) := by decide +kernel
theorem d_M_give_47 : decode m_M_give.2.1 47 = .ok (.goto 15, 3) := by decide +kernel
theorem d_M_give_50 : decode m_M_give.2.1 50 = .ok (.iload 8, 2) := by decide +kernel
theorem d_M_give_52 : decode m_M_give.2.1 52 = .ok (.bipush 60, 2) := by decide +kernel
theorem d_M_give_54 : decode m_M_give.2.1 54 = .ok (.if_icmp .ne 7, 3) := by decide +kernel
theorem d_M_give_57 : decode m_M_give.2.1 57 = .ok (.iconst 2, 1) := by decide +kernel
theorem d_M_give_58 : decode m_M_give.2.1 58 = .ok (.goto 4, 3) := by decide +kernel
theorem d_M_give_61 : decode m_M_give.2.1 61 = .ok (.iconst 0, 1) := by decide +kernel
theorem d_M_give_62 : decode m_M_give.2.1 62 = .ok (.putfield 52, 3) := by decide +kernel
theorem d_M_give_65 : decode m_M_give.2.1 65 = .ok (.aload_n 0, 1) := by decide +kernel
theorem d_M_give_66 : decode m_M_give.2.1 66 = .ok (.getfield 52, 3) := by decide +kernel
theorem d_M_give_69 : decode m_M_give.2.1 69 = .ok (.ifCond .le 5, 3) := by decide +kernel
theorem d_M_give_72 : decode m_M_give.2.1 72 = .ok (.iconst 0, 1) := by decide +kernel
theorem d_M_give_73 : decode m_M_give.2.1 73 = .ok (.ireturn, 1) := by decide +kernel
theorem d_M_give_74 : decode m_M_give.2.1 74 = .ok (.aload_n 0, 1) := by decide +kernel
theorem d_M_give_75 : decode m_M_give.2.1 75 = .ok (.iload 8, 2) := by decide +kernel
theorem d_M_give_77 : decode m_M_give.2.1 77 = .ok (.aload_n 0, 1) := by decide +kernel
theorem d_M_give_78 : decode m_M_give.2.1 78 = .ok (.getfield 56, 3) := by decide +kernel
theorem d_M_give_81 : decode m_M_give.2.1 81 = .ok (.if_icmp .ne 12, 3) := by decide +kernel
theorem d_M_give_84 : decode m_M_give.2.1 84 = .ok (.aload_n 0, 1) := by decide +kernel
theorem d_M_give_85 : decode m_M_give.2.1 85 = .ok (.getfield 56, 3) := by decide +kernel
theorem d_M_give_88 : decode m_M_give.2.1 88 = .ok (.iconst 1, 1) := by decide +kernel
theorem d_M_give_89 : decode m_M_give.2.1 89 = .ok (.iadd, 1) := by decide +kernel
theorem d_M_give_90 : decode m_M_give.2.1 90 = .ok (.goto 7, 3) := by decide +kernel
theorem d_M_give_93 : decode m_M_give.2.1 93 = .ok (.aload_n 0, 1) := by decide +kernel
theorem d_M_give_94 : decode m_M_give.2.1 94 = .ok (.getfield 56, 3) := by decide +kernel
theorem d_M_give_97 : decode m_M_give.2.1 97 = .ok (.putfield 56, 3) := by decide +kernel
theorem d_M_give_100 : decode m_M_give.2.1 100 = .ok (.iload 8, 2) := by decide +kernel
theorem d_M_give_102 : decode m_M_give.2.1 102 = .ok (.ireturn, 1) := by decide +kernel
theorem d_M_node_0 : decode m_M_node.2.1 0 = .ok (.iconst 0, 1) := by decide +kernel
theorem d_M_node_1 : decode m_M_node.2.1 1 = .ok (.istore 8, 2) := by decide +kernel
theorem d_M_node_3 : decode m_M_node.2.1 3 = .ok (.iload 8, 2) := by decide +kernel
theorem d_M_node_5 : decode m_M_node.2.1 5 = .ok (.aload_n 0, 1) := by decide +kernel
theorem d_M_node_6 : decode m_M_node.2.1 6 = .ok (.getfield 66, 3) := by decide +kernel
theorem d_M_node_9 : decode m_M_node.2.1 9 = .ok (.if_icmp .ge 115, 3) := by decide +kernel
theorem d_M_node_12 : decode m_M_node.2.1 12 = .ok (.aload_n 0, 1) := by decide +kernel
theorem d_M_node_13 : decode m_M_node.2.1 13 = .ok (.getfield 7, 3) := by decide +kernel
theorem d_M_node_16 : decode m_M_node.2.1 16 = .ok (.iload 8, 2) := by decide +kernel
theorem d_M_node_18 : decode m_M_node.2.1 18 = .ok (.iaload, 1) := by decide +kernel
theorem d_M_node_19 : decode m_M_node.2.1 19 = .ok (.iload_n 1, 1) := by decide +kernel
theorem d_M_node_20 : decode m_M_node.2.1 20 = .ok (.if_icmp .ne 41, 3) := by decide +kernel
theorem d_M_node_23 : decode m_M_node.2.1 23 = .ok (.aload_n 0, 1) := by decide +kernel
theorem d_M_node_24 : decode m_M_node.2.1 24 = .ok (.getfield 13, 3) := by decide +kernel
theorem d_M_node_27 : decode m_M_node.2.1 27 = .ok (.iload 8, 2) := by decide +kernel
theorem d_M_node_29 : decode m_M_node.2.1 29 = .ok (.iaload, 1) := by decide +kernel
theorem d_M_node_30 : decode m_M_node.2.1 30 = .ok (.iload_n 2, 1) := by decide +kernel
theorem d_M_node_31 : decode m_M_node.2.1 31 = .ok (.if_icmp .ne 30, 3) := by decide +kernel
theorem d_M_node_34 : decode m_M_node.2.1 34 = .ok (.aload_n 0, 1) := by decide +kernel
theorem d_M_node_35 : decode m_M_node.2.1 35 = .ok (.getfield 16, 3) := by decide +kernel
theorem d_M_node_38 : decode m_M_node.2.1 38 = .ok (.iload 8, 2) := by decide +kernel
theorem d_M_node_40 : decode m_M_node.2.1 40 = .ok (.iaload, 1) := by decide +kernel
theorem d_M_node_41 : decode m_M_node.2.1 41 = .ok (.iload_n 3, 1) := by decide +kernel
theorem d_M_node_42 : decode m_M_node.2.1 42 = .ok (.if_icmp .ne 19, 3) := by decide +kernel
theorem d_M_node_45 : decode m_M_node.2.1 45 = .ok (.aload_n 0, 1) := by decide +kernel
theorem d_M_node_46 : decode m_M_node.2.1 46 = .ok (.getfield 19, 3) := by decide +kernel
theorem d_M_node_49 : decode m_M_node.2.1 49 = .ok (.iload 8, 2) := by decide +kernel
theorem d_M_node_51 : decode m_M_node.2.1 51 = .ok (.iaload, 1) := by decide +kernel
theorem d_M_node_52 : decode m_M_node.2.1 52 = .ok (.iload 4, 2) := by decide +kernel
theorem d_M_node_54 : decode m_M_node.2.1 54 = .ok (.if_icmp .ne 7, 3) := by decide +kernel
theorem d_M_node_57 : decode m_M_node.2.1 57 = .ok (.iconst 1, 1) := by decide +kernel
theorem d_M_node_58 : decode m_M_node.2.1 58 = .ok (.goto 4, 3) := by decide +kernel
theorem d_M_node_61 : decode m_M_node.2.1 61 = .ok (.iconst 0, 1) := by decide +kernel
theorem d_M_node_62 : decode m_M_node.2.1 62 = .ok (.istore 9, 2) := by decide +kernel
theorem d_M_node_64 : decode m_M_node.2.1 64 = .ok (.iload 9, 2) := by decide +kernel
theorem d_M_node_66 : decode m_M_node.2.1 66 = .ok (.ifCond .eq 52, 3) := by decide +kernel
theorem d_M_node_69 : decode m_M_node.2.1 69 = .ok (.aload_n 0, 1) := by decide +kernel
theorem d_M_node_70 : decode m_M_node.2.1 70 = .ok (.getfield 22, 3) := by decide +kernel
theorem d_M_node_73 : decode m_M_node.2.1 73 = .ok (.iconst 3, 1) := by decide +kernel
theorem d_M_node_74 : decode m_M_node.2.1 74 = .ok (.iload 8, 2) := by decide +kernel
theorem d_M_node_76 : decode m_M_node.2.1 76 = .ok (.imul, 1) := by decide +kernel
theorem d_M_node_77 : decode m_M_node.2.1 77 = .ok (.iaload, 1) := by decide +kernel
theorem d_M_node_78 : decode m_M_node.2.1 78 = .ok (.iload 5, 2) := by decide +kernel
theorem d_M_node_80 : decode m_M_node.2.1 80 = .ok (.if_icmp .ne 38, 3) := by decide +kernel
theorem d_M_node_83 : decode m_M_node.2.1 83 = .ok (.aload_n 0, 1) := by decide +kernel
theorem d_M_node_84 : decode m_M_node.2.1 84 = .ok (.getfield 22, 3) := by decide +kernel
theorem d_M_node_87 : decode m_M_node.2.1 87 = .ok (.iconst 3, 1) := by decide +kernel
theorem d_M_node_88 : decode m_M_node.2.1 88 = .ok (.iload 8, 2) := by decide +kernel
theorem d_M_node_90 : decode m_M_node.2.1 90 = .ok (.imul, 1) := by decide +kernel
theorem d_M_node_91 : decode m_M_node.2.1 91 = .ok (.iconst 1, 1) := by decide +kernel
theorem d_M_node_92 : decode m_M_node.2.1 92 = .ok (.iadd, 1) := by decide +kernel
theorem d_M_node_93 : decode m_M_node.2.1 93 = .ok (.iaload, 1) := by decide +kernel
theorem d_M_node_94 : decode m_M_node.2.1 94 = .ok (.iload 6, 2) := by decide +kernel
theorem d_M_node_96 : decode m_M_node.2.1 96 = .ok (.if_icmp .ne 22, 3) := by decide +kernel
theorem d_M_node_99 : decode m_M_node.2.1 99 = .ok (.aload_n 0, 1) := by decide +kernel
theorem d_M_node_100 : decode m_M_node.2.1 100 = .ok (.getfield 22, 3) := by decide +kernel
theorem d_M_node_103 : decode m_M_node.2.1 103 = .ok (.iconst 3, 1) := by decide +kernel
theorem d_M_node_104 : decode m_M_node.2.1 104 = .ok (.iload 8, 2) := by decide +kernel
theorem d_M_node_106 : decode m_M_node.2.1 106 = .ok (.imul, 1) := by decide +kernel
theorem d_M_node_107 : decode m_M_node.2.1 107 = .ok (.iconst 2, 1) := by decide +kernel
theorem d_M_node_108 : decode m_M_node.2.1 108 = .ok (.iadd, 1) := by decide +kernel
theorem d_M_node_109 : decode m_M_node.2.1 109 = .ok (.iaload, 1) := by decide +kernel
theorem d_M_node_110 : decode m_M_node.2.1 110 = .ok (.iload 7, 2) := by decide +kernel
theorem d_M_node_112 : decode m_M_node.2.1 112 = .ok (.if_icmp .ne 6, 3) := by decide +kernel
theorem d_M_node_115 : decode m_M_node.2.1 115 = .ok (.iload 8, 2) := by decide +kernel
theorem d_M_node_117 : decode m_M_node.2.1 117 = .ok (.ireturn, 1) := by decide +kernel
theorem d_M_node_118 : decode m_M_node.2.1 118 = .ok (.iinc 8 1, 3) := by decide +kernel
theorem d_M_node_121 : decode m_M_node.2.1 121 = .ok (.goto (-118), 3) := by decide +kernel
theorem d_M_node_124 : decode m_M_node.2.1 124 = .ok (.aload_n 0, 1) := by decide +kernel
theorem d_M_node_125 : decode m_M_node.2.1 125 = .ok (.getfield 7, 3) := by decide +kernel
theorem d_M_node_128 : decode m_M_node.2.1 128 = .ok (.aload_n 0, 1) := by decide +kernel
theorem d_M_node_129 : decode m_M_node.2.1 129 = .ok (.getfield 66, 3) := by decide +kernel
theorem d_M_node_132 : decode m_M_node.2.1 132 = .ok (.iload_n 1, 1) := by decide +kernel
theorem d_M_node_133 : decode m_M_node.2.1 133 = .ok (.iastore, 1) := by decide +kernel
theorem d_M_node_134 : decode m_M_node.2.1 134 = .ok (.aload_n 0, 1) := by decide +kernel
theorem d_M_node_135 : decode m_M_node.2.1 135 = .ok (.getfield 13, 3) := by decide +kernel
theorem d_M_node_138 : decode m_M_node.2.1 138 = .ok (.aload_n 0, 1) := by decide +kernel
theorem d_M_node_139 : decode m_M_node.2.1 139 = .ok (.getfield 66, 3) := by decide +kernel
theorem d_M_node_142 : decode m_M_node.2.1 142 = .ok (.iload_n 2, 1) := by decide +kernel
theorem d_M_node_143 : decode m_M_node.2.1 143 = .ok (.iastore, 1) := by decide +kernel
theorem d_M_node_144 : decode m_M_node.2.1 144 = .ok (.aload_n 0, 1) := by decide +kernel
theorem d_M_node_145 : decode m_M_node.2.1 145 = .ok (.getfield 16, 3) := by decide +kernel
theorem d_M_node_148 : decode m_M_node.2.1 148 = .ok (.aload_n 0, 1) := by decide +kernel
theorem d_M_node_149 : decode m_M_node.2.1 149 = .ok (.getfield 66, 3) := by decide +kernel
theorem d_M_node_152 : decode m_M_node.2.1 152 = .ok (.iload_n 3, 1) := by decide +kernel
theorem d_M_node_153 : decode m_M_node.2.1 153 = .ok (.iastore, 1) := by decide +kernel
theorem d_M_node_154 : decode m_M_node.2.1 154 = .ok (.aload_n 0, 1) := by decide +kernel
theorem d_M_node_155 : decode m_M_node.2.1 155 = .ok (.getfield 19, 3) := by decide +kernel
theorem d_M_node_158 : decode m_M_node.2.1 158 = .ok (.aload_n 0, 1) := by decide +kernel
theorem d_M_node_159 : decode m_M_node.2.1 159 = .ok (.getfield 66, 3) := by decide +kernel
theorem d_M_node_162 : decode m_M_node.2.1 162 = .ok (.iload 4, 2) := by decide +kernel
theorem d_M_node_164 : decode m_M_node.2.1 164 = .ok (.iastore, 1) := by decide +kernel
theorem d_M_node_165 : decode m_M_node.2.1 165 = .ok (.aload_n 0, 1) := by decide +kernel
theorem d_M_node_166 : decode m_M_node.2.1 166 = .ok (.getfield 22, 3) := by decide +kernel
theorem d_M_node_169 : decode m_M_node.2.1 169 = .ok (.iconst 3, 1) := by decide +kernel
theorem d_M_node_170 : decode m_M_node.2.1 170 = .ok (.aload_n 0, 1) := by decide +kernel
theorem d_M_node_171 : decode m_M_node.2.1 171 = .ok (.getfield 66, 3) := by decide +kernel
theorem d_M_node_174 : decode m_M_node.2.1 174 = .ok (.imul, 1) := by decide +kernel
theorem d_M_node_175 : decode m_M_node.2.1 175 = .ok (.iload 5, 2) := by decide +kernel
theorem d_M_node_177 : decode m_M_node.2.1 177 = .ok (.iastore, 1) := by decide +kernel
theorem d_M_node_178 : decode m_M_node.2.1 178 = .ok (.aload_n 0, 1) := by decide +kernel
theorem d_M_node_179 : decode m_M_node.2.1 179 = .ok (.getfield 22, 3) := by decide +kernel
theorem d_M_node_182 : decode m_M_node.2.1 182 = .ok (.iconst 3, 1) := by decide +kernel
theorem d_M_node_183 : decode m_M_node.2.1 183 = .ok (.aload_n 0, 1) := by decide +kernel
theorem d_M_node_184 : decode m_M_node.2.1 184 = .ok (.getfield 66, 3) := by decide +kernel
theorem d_M_node_187 : decode m_M_node.2.1 187 = .ok (.imul, 1) := by decide +kernel
theorem d_M_node_188 : decode m_M_node.2.1 188 = .ok (.iconst 1, 1) := by decide +kernel
theorem d_M_node_189 : decode m_M_node.2.1 189 = .ok (.iadd, 1) := by decide +kernel
theorem d_M_node_190 : decode m_M_node.2.1 190 = .ok (.iload 6, 2) := by decide +kernel
theorem d_M_node_192 : decode m_M_node.2.1 192 = .ok (.iastore, 1) := by decide +kernel
theorem d_M_node_193 : decode m_M_node.2.1 193 = .ok (.aload_n 0, 1) := by decide +kernel
theorem d_M_node_194 : decode m_M_node.2.1 194 = .ok (.getfield 22, 3) := by decide +kernel
theorem d_M_node_197 : decode m_M_node.2.1 197 = .ok (.iconst 3, 1) := by decide +kernel
theorem d_M_node_198 : decode m_M_node.2.1 198 = .ok (.aload_n 0, 1) := by decide +kernel
theorem d_M_node_199 : decode m_M_node.2.1 199 = .ok (.getfield 66, 3) := by decide +kernel
theorem d_M_node_202 : decode m_M_node.2.1 202 = .ok (.imul, 1) := by decide +kernel
theorem d_M_node_203 : decode m_M_node.2.1 203 = .ok (.iconst 2, 1) := by decide +kernel
theorem d_M_node_204 : decode m_M_node.2.1 204 = .ok (.iadd, 1) := by decide +kernel
theorem d_M_node_205 : decode m_M_node.2.1 205 = .ok (.iload 7, 2) := by decide +kernel
theorem d_M_node_207 : decode m_M_node.2.1 207 = .ok (.iastore, 1) := by decide +kernel
theorem d_M_node_208 : decode m_M_node.2.1 208 = .ok (.aload_n 0, 1) := by decide +kernel
theorem d_M_node_209 : decode m_M_node.2.1 209 = .ok (.aload_n 0, 1) := by decide +kernel
theorem d_M_node_210 : decode m_M_node.2.1 210 = .ok (.iconst 1, 1) := by decide +kernel
theorem d_M_node_211 : decode m_M_node.2.1 211 = .ok (.iload_n 3, 1) := by decide +kernel
theorem d_M_node_212 : decode m_M_node.2.1 212 = .ok (.invokevirtual 69, 3) := by decide +kernel
theorem d_M_node_215 : decode m_M_node.2.1 215 = .ok (.iload 4, 2) := by decide +kernel
theorem d_M_node_217 : decode m_M_node.2.1 217 = .ok (.invokevirtual 69, 3) := by decide +kernel
theorem d_M_node_220 : decode m_M_node.2.1 220 = .ok (.istore 8, 2) := by decide +kernel
theorem d_M_node_222 : decode m_M_node.2.1 222 = .ok (.aload_n 0, 1) := by decide +kernel
theorem d_M_node_223 : decode m_M_node.2.1 223 = .ok (.getfield 25, 3) := by decide +kernel
theorem d_M_node_226 : decode m_M_node.2.1 226 = .ok (.aload_n 0, 1) := by decide +kernel
theorem d_M_node_227 : decode m_M_node.2.1 227 = .ok (.getfield 66, 3) := by decide +kernel
theorem d_M_node_230 : decode m_M_node.2.1 230 = .ok (.aload_n 0, 1) := by decide +kernel
theorem d_M_node_231 : decode m_M_node.2.1 231 = .ok (.aload_n 0, 1) := by decide +kernel
theorem d_M_node_232 : decode m_M_node.2.1 232 = .ok (.aload_n 0, 1) := by decide +kernel
theorem d_M_node_233 : decode m_M_node.2.1 233 = .ok (.iload 8, 2) := by decide +kernel
theorem d_M_node_235 : decode m_M_node.2.1 235 = .ok (.iload 5, 2) := by decide +kernel
theorem d_M_node_237 : decode m_M_node.2.1 237 = .ok (.invokevirtual 69, 3) := by decide +kernel
theorem d_M_node_240 : decode m_M_node.2.1 240 = .ok (.iload 6, 2) := by decide +kernel
theorem d_M_node_242 : decode m_M_node.2.1 242 = .ok (.invokevirtual 69, 3) := by decide +kernel
theorem d_M_node_245 : decode m_M_node.2.1 245 = .ok (.iload 7, 2) := by decide +kernel
theorem d_M_node_247 : decode m_M_node.2.1 247 = .ok (.invokevirtual 69, 3) := by decide +kernel
theorem d_M_node_250 : decode m_M_node.2.1 250 = .ok (.iastore, 1) := by decide +kernel
theorem d_M_node_251 : decode m_M_node.2.1 251 = .ok (.aload_n 0, 1) := by decide +kernel
theorem d_M_node_252 : decode m_M_node.2.1 252 = .ok (.dup, 1) := by decide +kernel
theorem d_M_node_253 : decode m_M_node.2.1 253 = .ok (.getfield 66, 3) := by decide +kernel
theorem d_M_node_256 : decode m_M_node.2.1 256 = .ok (.iconst 1, 1) := by decide +kernel
theorem d_M_node_257 : decode m_M_node.2.1 257 = .ok (.iadd, 1) := by decide +kernel
theorem d_M_node_258 : decode m_M_node.2.1 258 = .ok (.putfield 66, 3) := by decide +kernel
theorem d_M_node_261 : decode m_M_node.2.1 261 = .ok (.aload_n 0, 1) := by decide +kernel
theorem d_M_node_262 : decode m_M_node.2.1 262 = .ok (.getfield 66, 3) := by decide +kernel
theorem d_M_node_265 : decode m_M_node.2.1 265 = .ok (.iconst 1, 1) := by decide +kernel
theorem d_M_node_266 : decode m_M_node.2.1 266 = .ok (.isub, 1) := by decide +kernel
theorem d_M_node_267 : decode m_M_node.2.1 267 = .ok (.ireturn, 1) := by decide +kernel
theorem d_M_deeper_0 : decode m_M_deeper.2.1 0 = .ok (.iload_n 2, 1) := by decide +kernel
theorem d_M_deeper_1 : decode m_M_deeper.2.1 1 = .ok (.ifCond .lt 32, 3) := by decide +kernel
theorem d_M_deeper_4 : decode m_M_deeper.2.1 4 = .ok (.aload_n 0, 1) := by decide +kernel
theorem d_M_deeper_5 : decode m_M_deeper.2.1 5 = .ok (.getfield 25, 3) := by decide +kernel
theorem d_M_deeper_8 : decode m_M_deeper.2.1 8 = .ok (.iload_n 2, 1) := by decide +kernel
theorem d_M_deeper_9 : decode m_M_deeper.2.1 9 = .ok (.ifCond .ge 7, 3) := by decide +kernel
theorem d_M_deeper_12 : decode m_M_deeper.2.1 12 = .ok (.iconst 0, 1) := by decide +kernel
theorem d_M_deeper_13 : decode m_M_deeper.2.1 13 = .ok (.goto 4, 3) := by decide +kernel
theorem d_M_deeper_16 : decode m_M_deeper.2.1 16 = .ok (.iload_n 2, 1) := by decide +kernel
theorem d_M_deeper_17 : decode m_M_deeper.2.1 17 = .ok (.iaload, 1) := by decide +kernel
theorem d_M_deeper_18 : decode m_M_deeper.2.1 18 = .ok (.iload_n 1, 1) := by decide +kernel
theorem d_M_deeper_19 : decode m_M_deeper.2.1 19 = .ok (.if_icmp .lt 14, 3) := by decide +kernel
theorem d_M_deeper_22 : decode m_M_deeper.2.1 22 = .ok (.aload_n 0, 1) := by decide +kernel
theorem d_M_deeper_23 : decode m_M_deeper.2.1 23 = .ok (.getfield 25, 3) := by decide +kernel
theorem d_M_deeper_26 : decode m_M_deeper.2.1 26 = .ok (.iload_n 2, 1) := by decide +kernel
theorem d_M_deeper_27 : decode m_M_deeper.2.1 27 = .ok (.iaload, 1) := by decide +kernel
theorem d_M_deeper_28 : decode m_M_deeper.2.1 28 = .ok (.iconst 1, 1) := by decide +kernel
theorem d_M_deeper_29 : decode m_M_deeper.2.1 29 = .ok (.iadd, 1) := by decide +kernel
theorem d_M_deeper_30 : decode m_M_deeper.2.1 30 = .ok (.goto 4, 3) := by decide +kernel
theorem d_M_deeper_33 : decode m_M_deeper.2.1 33 = .ok (.iload_n 1, 1) := by decide +kernel
theorem d_M_deeper_34 : decode m_M_deeper.2.1 34 = .ok (.ireturn, 1) := by decide +kernel
theorem d_M_name_0 : decode m_M_name.2.1 0 = .ok (.aload_n 0, 1) := by decide +kernel
theorem d_M_name_1 : decode m_M_name.2.1 1 = .ok (.iload_n 1, 1) := by decide +kernel
theorem d_M_name_2 : decode m_M_name.2.1 2 = .ok (.invokestatic 80, 3) := by decide +kernel
theorem d_M_name_5 : decode m_M_name.2.1 5 = .ok (.ifCond .eq 7, 3) := by decide +kernel
theorem d_M_name_8 : decode m_M_name.2.1 8 = .ok (.iconst 0, 1) := by decide +kernel
theorem d_M_name_9 : decode m_M_name.2.1 9 = .ok (.goto 4, 3) := by decide +kernel
theorem d_M_name_12 : decode m_M_name.2.1 12 = .ok (.iconst 1, 1) := by decide +kernel
theorem d_M_name_13 : decode m_M_name.2.1 13 = .ok (.putfield 52, 3) := by decide +kernel
theorem d_M_name_16 : decode m_M_name.2.1 16 = .ok (.aload_n 0, 1) := by decide +kernel
theorem d_M_name_17 : decode m_M_name.2.1 17 = .ok (.getfield 52, 3) := by decide +kernel
theorem d_M_name_20 : decode m_M_name.2.1 20 = .ok (.ifCond .le 7, 3) := by decide +kernel
theorem d_M_name_23 : decode m_M_name.2.1 23 = .ok (.iconst 0, 1) := by decide +kernel
theorem d_M_name_24 : decode m_M_name.2.1 24 = .ok (.goto 14, 3) := by decide +kernel
theorem d_M_name_27 : decode m_M_name.2.1 27 = .ok (.aload_n 0, 1) := by decide +kernel
theorem d_M_name_28 : decode m_M_name.2.1 28 = .ok (.iconst 1, 1) := by decide +kernel
theorem d_M_name_29 : decode m_M_name.2.1 29 = .ok (.iload_n 1, 1) := by decide +kernel
theorem d_M_name_30 : decode m_M_name.2.1 30 = .ok (.iconst (-1), 1) := by decide +kernel
theorem d_M_name_31 : decode m_M_name.2.1 31 = .ok (.iconst (-1), 1) := by decide +kernel
theorem d_M_name_32 : decode m_M_name.2.1 32 = .ok (.iconst (-1), 1) := by decide +kernel
theorem d_M_name_33 : decode m_M_name.2.1 33 = .ok (.iconst (-1), 1) := by decide +kernel
theorem d_M_name_34 : decode m_M_name.2.1 34 = .ok (.iconst (-1), 1) := by decide +kernel
theorem d_M_name_35 : decode m_M_name.2.1 35 = .ok (.invokevirtual 77, 3) := by decide +kernel
theorem d_M_name_38 : decode m_M_name.2.1 38 = .ok (.ireturn, 1) := by decide +kernel
theorem d_M_isId_0 : decode m_M_isId.2.1 0 = .ok (.iload_n 0, 1) := by decide +kernel
theorem d_M_isId_1 : decode m_M_isId.2.1 1 = .ok (.bipush 16, 2) := by decide +kernel
theorem d_M_isId_3 : decode m_M_isId.2.1 3 = .ok (.ishr, 1) := by decide +kernel
theorem d_M_isId_4 : decode m_M_isId.2.1 4 = .ok (.istore_n 1, 1) := by decide +kernel
theorem d_M_isId_5 : decode m_M_isId.2.1 5 = .ok (.iload_n 0, 1) := by decide +kernel
theorem d_M_isId_6 : decode m_M_isId.2.1 6 = .ok (.bipush 8, 2) := by decide +kernel
theorem d_M_isId_8 : decode m_M_isId.2.1 8 = .ok (.ishr, 1) := by decide +kernel
theorem d_M_isId_9 : decode m_M_isId.2.1 9 = .ok (.sipush 255, 3) := by decide +kernel
theorem d_M_isId_12 : decode m_M_isId.2.1 12 = .ok (.iand, 1) := by decide +kernel
theorem d_M_isId_13 : decode m_M_isId.2.1 13 = .ok (.istore_n 2, 1) := by decide +kernel
theorem d_M_isId_14 : decode m_M_isId.2.1 14 = .ok (.iload_n 0, 1) := by decide +kernel
theorem d_M_isId_15 : decode m_M_isId.2.1 15 = .ok (.sipush 255, 3) := by decide +kernel
theorem d_M_isId_18 : decode m_M_isId.2.1 18 = .ok (.iand, 1) := by decide +kernel
theorem d_M_isId_19 : decode m_M_isId.2.1 19 = .ok (.istore_n 3, 1) := by decide +kernel
theorem d_M_isId_20 : decode m_M_isId.2.1 20 = .ok (.iload_n 3, 1) := by decide +kernel
theorem d_M_isId_21 : decode m_M_isId.2.1 21 = .ok (.bipush 97, 2) := by decide +kernel
theorem d_M_isId_23 : decode m_M_isId.2.1 23 = .ok (.if_icmp .lt 13, 3) := by decide +kernel
theorem d_M_isId_26 : decode m_M_isId.2.1 26 = .ok (.iload_n 3, 1) := by decide +kernel
theorem d_M_isId_27 : decode m_M_isId.2.1 27 = .ok (.bipush 122, 2) := by decide +kernel
theorem d_M_isId_29 : decode m_M_isId.2.1 29 = .ok (.if_icmp .gt 7, 3) := by decide +kernel
theorem d_M_isId_32 : decode m_M_isId.2.1 32 = .ok (.iconst 1, 1) := by decide +kernel
theorem d_M_isId_33 : decode m_M_isId.2.1 33 = .ok (.goto 4, 3) := by decide +kernel
theorem d_M_isId_36 : decode m_M_isId.2.1 36 = .ok (.iconst 0, 1) := by decide +kernel
theorem d_M_isId_37 : decode m_M_isId.2.1 37 = .ok (.istore 4, 2) := by decide +kernel
theorem d_M_isId_39 : decode m_M_isId.2.1 39 = .ok (.iload_n 2, 1) := by decide +kernel
theorem d_M_isId_40 : decode m_M_isId.2.1 40 = .ok (.bipush 97, 2) := by decide +kernel
theorem d_M_isId_42 : decode m_M_isId.2.1 42 = .ok (.if_icmp .lt 13, 3) := by decide +kernel
theorem d_M_isId_45 : decode m_M_isId.2.1 45 = .ok (.iload_n 2, 1) := by decide +kernel
theorem d_M_isId_46 : decode m_M_isId.2.1 46 = .ok (.bipush 122, 2) := by decide +kernel
theorem d_M_isId_48 : decode m_M_isId.2.1 48 = .ok (.if_icmp .gt 7, 3) := by decide +kernel
theorem d_M_isId_51 : decode m_M_isId.2.1 51 = .ok (.iconst 1, 1) := by decide +kernel
theorem d_M_isId_52 : decode m_M_isId.2.1 52 = .ok (.goto 4, 3) := by decide +kernel
theorem d_M_isId_55 : decode m_M_isId.2.1 55 = .ok (.iconst 0, 1) := by decide +kernel
theorem d_M_isId_56 : decode m_M_isId.2.1 56 = .ok (.istore 5, 2) := by decide +kernel
theorem d_M_isId_58 : decode m_M_isId.2.1 58 = .ok (.iload_n 1, 1) := by decide +kernel
theorem d_M_isId_59 : decode m_M_isId.2.1 59 = .ok (.bipush 97, 2) := by decide +kernel
theorem d_M_isId_61 : decode m_M_isId.2.1 61 = .ok (.if_icmp .lt 13, 3) := by decide +kernel
theorem d_M_isId_64 : decode m_M_isId.2.1 64 = .ok (.iload_n 1, 1) := by decide +kernel
theorem d_M_isId_65 : decode m_M_isId.2.1 65 = .ok (.bipush 122, 2) := by decide +kernel
theorem d_M_isId_67 : decode m_M_isId.2.1 67 = .ok (.if_icmp .gt 7, 3) := by decide +kernel
theorem d_M_isId_70 : decode m_M_isId.2.1 70 = .ok (.iconst 1, 1) := by decide +kernel
theorem d_M_isId_71 : decode m_M_isId.2.1 71 = .ok (.goto 4, 3) := by decide +kernel
theorem d_M_isId_74 : decode m_M_isId.2.1 74 = .ok (.iconst 0, 1) := by decide +kernel
theorem d_M_isId_75 : decode m_M_isId.2.1 75 = .ok (.istore 6, 2) := by decide +kernel
theorem d_M_isId_77 : decode m_M_isId.2.1 77 = .ok (.iload 4, 2) := by decide +kernel
theorem d_M_isId_79 : decode m_M_isId.2.1 79 = .ok (.ifCond .eq 29, 3) := by decide +kernel
theorem d_M_isId_82 : decode m_M_isId.2.1 82 = .ok (.iload 5, 2) := by decide +kernel
theorem d_M_isId_84 : decode m_M_isId.2.1 84 = .ok (.ifCond .ne 11, 3) := by decide +kernel
theorem d_M_isId_87 : decode m_M_isId.2.1 87 = .ok (.iload_n 2, 1) := by decide +kernel
theorem d_M_isId_88 : decode m_M_isId.2.1 88 = .ok (.ifCond .ne 20, 3) := by decide +kernel
theorem d_M_isId_91 : decode m_M_isId.2.1 91 = .ok (.iload_n 1, 1) := by decide +kernel
theorem d_M_isId_92 : decode m_M_isId.2.1 92 = .ok (.ifCond .ne 16, 3) := by decide +kernel
theorem d_M_isId_95 : decode m_M_isId.2.1 95 = .ok (.iload 6, 2) := by decide +kernel
theorem d_M_isId_97 : decode m_M_isId.2.1 97 = .ok (.ifCond .ne 7, 3) := by decide +kernel
theorem d_M_isId_100 : decode m_M_isId.2.1 100 = .ok (.iload_n 1, 1) := by decide +kernel
theorem d_M_isId_101 : decode m_M_isId.2.1 101 = .ok (.ifCond .ne 7, 3) := by decide +kernel
theorem d_M_isId_104 : decode m_M_isId.2.1 104 = .ok (.iconst 1, 1) := by decide +kernel
theorem d_M_isId_105 : decode m_M_isId.2.1 105 = .ok (.goto 4, 3) := by decide +kernel
theorem d_M_isId_108 : decode m_M_isId.2.1 108 = .ok (.iconst 0, 1) := by decide +kernel
theorem d_M_isId_109 : decode m_M_isId.2.1 109 = .ok (.ireturn, 1) := by decide +kernel
theorem d_M_member_0 : decode m_M_member.2.1 0 = .ok (.aload_n 0, 1) := by decide +kernel
theorem d_M_member_1 : decode m_M_member.2.1 1 = .ok (.aload_n 0, 1) := by decide +kernel
theorem d_M_member_2 : decode m_M_member.2.1 2 = .ok (.iload_n 1, 1) := by decide +kernel
theorem d_M_member_3 : decode m_M_member.2.1 3 = .ok (.invokevirtual 83, 3) := by decide +kernel
theorem d_M_member_6 : decode m_M_member.2.1 6 = .ok (.ifCond .eq 14, 3) := by decide +kernel
theorem d_M_member_9 : decode m_M_member.2.1 9 = .ok (.iload_n 2, 1) := by decide +kernel
theorem d_M_member_10 : decode m_M_member.2.1 10 = .ok (.invokestatic 80, 3) := by decide +kernel
theorem d_M_member_13 : decode m_M_member.2.1 13 = .ok (.ifCond .eq 7, 3) := by decide +kernel
theorem d_M_member_16 : decode m_M_member.2.1 16 = .ok (.iconst 0, 1) := by decide +kernel
theorem d_M_member_17 : decode m_M_member.2.1 17 = .ok (.goto 4, 3) := by decide +kernel
theorem d_M_member_20 : decode m_M_member.2.1 20 = .ok (.iconst 1, 1) := by decide +kernel
theorem d_M_member_21 : decode m_M_member.2.1 21 = .ok (.putfield 52, 3) := by decide +kernel
theorem d_M_member_24 : decode m_M_member.2.1 24 = .ok (.aload_n 0, 1) := by decide +kernel
theorem d_M_member_25 : decode m_M_member.2.1 25 = .ok (.getfield 52, 3) := by decide +kernel
theorem d_M_member_28 : decode m_M_member.2.1 28 = .ok (.ifCond .le 7, 3) := by decide +kernel
theorem d_M_member_31 : decode m_M_member.2.1 31 = .ok (.iconst 0, 1) := by decide +kernel
theorem d_M_member_32 : decode m_M_member.2.1 32 = .ok (.goto 14, 3) := by decide +kernel
theorem d_M_member_35 : decode m_M_member.2.1 35 = .ok (.aload_n 0, 1) := by decide +kernel
theorem d_M_member_36 : decode m_M_member.2.1 36 = .ok (.iconst 2, 1) := by decide +kernel
theorem d_M_member_37 : decode m_M_member.2.1 37 = .ok (.iload_n 2, 1) := by decide +kernel
theorem d_M_member_38 : decode m_M_member.2.1 38 = .ok (.iload_n 1, 1) := by decide +kernel
theorem d_M_member_39 : decode m_M_member.2.1 39 = .ok (.iconst (-1), 1) := by decide +kernel
theorem d_M_member_40 : decode m_M_member.2.1 40 = .ok (.iconst (-1), 1) := by decide +kernel
theorem d_M_member_41 : decode m_M_member.2.1 41 = .ok (.iconst (-1), 1) := by decide +kernel
theorem d_M_member_42 : decode m_M_member.2.1 42 = .ok (.iconst (-1), 1) := by decide +kernel
theorem d_M_member_43 : decode m_M_member.2.1 43 = .ok (.invokevirtual 77, 3) := by decide +kernel
theorem d_M_member_46 : decode m_M_member.2.1 46 = .ok (.ireturn, 1) := by decide +kernel
theorem d_M_isScoped_0 : decode m_M_isScoped.2.1 0 = .ok (.aload_n 0, 1) := by decide +kernel
theorem d_M_isScoped_1 : decode m_M_isScoped.2.1 1 = .ok (.iload_n 1, 1) := by decide +kernel
theorem d_M_isScoped_2 : decode m_M_isScoped.2.1 2 = .ok (.invokevirtual 59, 3) := by decide +kernel
theorem d_M_isScoped_5 : decode m_M_isScoped.2.1 5 = .ok (.ifCond .eq 51, 3) := by decide +kernel
theorem d_M_isScoped_8 : decode m_M_isScoped.2.1 8 = .ok (.aload_n 0, 1) := by decide +kernel
theorem d_M_isScoped_9 : decode m_M_isScoped.2.1 9 = .ok (.getfield 7, 3) := by decide +kernel
theorem d_M_isScoped_12 : decode m_M_isScoped.2.1 12 = .ok (.aload_n 0, 1) := by decide +kernel
theorem d_M_isScoped_13 : decode m_M_isScoped.2.1 13 = .ok (.iload_n 1, 1) := by decide +kernel
theorem d_M_isScoped_14 : decode m_M_isScoped.2.1 14 = .ok (.invokevirtual 59, 3) := by decide +kernel
theorem d_M_isScoped_17 : decode m_M_isScoped.2.1 17 = .ok (.ifCond .eq 7, 3) := by decide +kernel
theorem d_M_isScoped_20 : decode m_M_isScoped.2.1 20 = .ok (.iload_n 1, 1) := by decide +kernel
theorem d_M_isScoped_21 : decode m_M_isScoped.2.1 21 = .ok (.goto 4, 3) := by decide +kernel
theorem d_M_isScoped_24 : decode m_M_isScoped.2.1 24 = .ok (.iconst 0, 1) := by decide +kernel
theorem d_M_isScoped_25 : decode m_M_isScoped.2.1 25 = .ok (.iaload, 1) := by decide +kernel
theorem d_M_isScoped_26 : decode m_M_isScoped.2.1 26 = .ok (.iconst 1, 1) := by decide +kernel
theorem d_M_isScoped_27 : decode m_M_isScoped.2.1 27 = .ok (.if_icmp .lt 29, 3) := by decide +kernel
theorem d_M_isScoped_30 : decode m_M_isScoped.2.1 30 = .ok (.aload_n 0, 1) := by decide +kernel
theorem d_M_isScoped_31 : decode m_M_isScoped.2.1 31 = .ok (.getfield 7, 3) := by decide +kernel
theorem d_M_isScoped_34 : decode m_M_isScoped.2.1 34 = .ok (.aload_n 0, 1) := by decide +kernel
theorem d_M_isScoped_35 : decode m_M_isScoped.2.1 35 = .ok (.iload_n 1, 1) := by decide +kernel
theorem d_M_isScoped_36 : decode m_M_isScoped.2.1 36 = .ok (.invokevirtual 59, 3) := by decide +kernel
theorem d_M_isScoped_39 : decode m_M_isScoped.2.1 39 = .ok (.ifCond .eq 7, 3) := by decide +kernel
theorem d_M_isScoped_42 : decode m_M_isScoped.2.1 42 = .ok (.iload_n 1, 1) := by decide +kernel
theorem d_M_isScoped_43 : decode m_M_isScoped.2.1 43 = .ok (.goto 4, 3) := by decide +kernel
theorem d_M_isScoped_46 : decode m_M_isScoped.2.1 46 = .ok (.iconst 0, 1) := by decide +kernel
theorem d_M_isScoped_47 : decode m_M_isScoped.2.1 47 = .ok (.iaload, 1) := by decide +kernel
theorem d_M_isScoped_48 : decode m_M_isScoped.2.1 48 = .ok (.iconst 3, 1) := by decide +kernel
theorem d_M_isScoped_49 : decode m_M_isScoped.2.1 49 = .ok (.if_icmp .gt 7, 3) := by decide +kernel
theorem d_M_isScoped_52 : decode m_M_isScoped.2.1 52 = .ok (.iconst 1, 1) := by decide +kernel
theorem d_M_isScoped_53 : decode m_M_isScoped.2.1 53 = .ok (.goto 4, 3) := by decide +kernel
theorem d_M_isScoped_56 : decode m_M_isScoped.2.1 56 = .ok (.iconst 0, 1) := by decide +kernel
theorem d_M_isScoped_57 : decode m_M_isScoped.2.1 57 = .ok (.ireturn, 1) := by decide +kernel
theorem d_M_isNode_0 : decode m_M_isNode.2.1 0 = .ok (.iload_n 1, 1) := by decide +kernel
theorem d_M_isNode_1 : decode m_M_isNode.2.1 1 = .ok (.ifCond .lt 15, 3) := by decide +kernel
theorem d_M_isNode_4 : decode m_M_isNode.2.1 4 = .ok (.iload_n 1, 1) := by decide +kernel
theorem d_M_isNode_5 : decode m_M_isNode.2.1 5 = .ok (.aload_n 0, 1) := by decide +kernel
theorem d_M_isNode_6 : decode m_M_isNode.2.1 6 = .ok (.getfield 56, 3) := by decide +kernel
theorem d_M_isNode_9 : decode m_M_isNode.2.1 9 = .ok (.if_icmp .ge 7, 3) := by decide +kernel
theorem d_M_isNode_12 : decode m_M_isNode.2.1 12 = .ok (.iconst 1, 1) := by decide +kernel
theorem d_M_isNode_13 : decode m_M_isNode.2.1 13 = .ok (.goto 4, 3) := by decide +kernel
theorem d_M_isNode_16 : decode m_M_isNode.2.1 16 = .ok (.iconst 0, 1) := by decide +kernel
theorem d_M_isNode_17 : decode m_M_isNode.2.1 17 = .ok (.ireturn, 1) := by decide +kernel
