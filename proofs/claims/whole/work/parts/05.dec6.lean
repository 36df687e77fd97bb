/-! decode rows, by program (wip/whole/gen03.py) -/
theorem d_M_nextNested_0 : decode m_M_nextNested.2.1 0 = .ok (.aload_n 0, 1) := by decide +kernel
theorem d_M_nextNested_1 : decode m_M_nextNested.2.1 1 = .ok (.getfield 120, 3) := by decide +kernel
theorem d_M_nextNested_4 : decode m_M_nextNested.2.1 4 = .ok (.iconst 1, 1) := by decide +kernel
theorem d_M_nextNested_5 : decode m_M_nextNested.2.1 5 = .ok (.isub, 1) := by decide +kernel
theorem d_M_nextNested_6 : decode m_M_nextNested.2.1 6 = .ok (.istore_n 1, 1) := by decide +kernel
theorem d_M_nextNested_7 : decode m_M_nextNested.2.1 7 = .ok (.aload_n 0, 1) := by decide +kernel
theorem d_M_nextNested_8 : decode m_M_nextNested.2.1 8 = .ok (.getfield 171, 3) := by decide +kernel
theorem d_M_nextNested_11 : decode m_M_nextNested.2.1 11 = .ok (.ifCond .ne 209, 3) := by decide +kernel
theorem d_M_nextNested_14 : decode m_M_nextNested.2.1 14 = .ok (.aload_n 0, 1) := by decide +kernel
theorem d_M_nextNested_15 : decode m_M_nextNested.2.1 15 = .ok (.getfield 43, 3) := by decide +kernel
theorem d_M_nextNested_18 : decode m_M_nextNested.2.1 18 = .ok (.iload_n 1, 1) := by decide +kernel
theorem d_M_nextNested_19 : decode m_M_nextNested.2.1 19 = .ok (.iaload, 1) := by decide +kernel
theorem d_M_nextNested_20 : decode m_M_nextNested.2.1 20 = .ok (.istore_n 2, 1) := by decide +kernel
theorem d_M_nextNested_21 : decode m_M_nextNested.2.1 21 = .ok (.aload_n 0, 1) := by decide +kernel
theorem d_M_nextNested_22 : decode m_M_nextNested.2.1 22 = .ok (.invokevirtual 174, 3) := by decide +kernel
theorem d_M_nextNested_25 : decode m_M_nextNested.2.1 25 = .ok (.bipush 69, 2) := by decide +kernel
theorem d_M_nextNested_27 : decode m_M_nextNested.2.1 27 = .ok (.if_icmp .ne 102, 3) := by decide +kernel
theorem d_M_nextNested_30 : decode m_M_nextNested.2.1 30 = .ok (.aload_n 0, 1) := by decide +kernel
theorem d_M_nextNested_31 : decode m_M_nextNested.2.1 31 = .ok (.dup, 1) := by decide +kernel
theorem d_M_nextNested_32 : decode m_M_nextNested.2.1 32 = .ok (.getfield 168, 3) := by decide +kernel
theorem d_M_nextNested_35 : decode m_M_nextNested.2.1 35 = .ok (.iconst 1, 1) := by decide +kernel
theorem d_M_nextNested_36 : decode m_M_nextNested.2.1 36 = .ok (.iadd, 1) := by decide +kernel
theorem d_M_nextNested_37 : decode m_M_nextNested.2.1 37 = .ok (.putfield 168, 3) := by decide +kernel
theorem d_M_nextNested_40 : decode m_M_nextNested.2.1 40 = .ok (.aload_n 0, 1) := by decide +kernel
theorem d_M_nextNested_41 : decode m_M_nextNested.2.1 41 = .ok (.dup, 1) := by decide +kernel
theorem d_M_nextNested_42 : decode m_M_nextNested.2.1 42 = .ok (.getfield 120, 3) := by decide +kernel
theorem d_M_nextNested_45 : decode m_M_nextNested.2.1 45 = .ok (.iconst 1, 1) := by decide +kernel
theorem d_M_nextNested_46 : decode m_M_nextNested.2.1 46 = .ok (.isub, 1) := by decide +kernel
theorem d_M_nextNested_47 : decode m_M_nextNested.2.1 47 = .ok (.putfield 120, 3) := by decide +kernel
theorem d_M_nextNested_50 : decode m_M_nextNested.2.1 50 = .ok (.aload_n 0, 1) := by decide +kernel
theorem d_M_nextNested_51 : decode m_M_nextNested.2.1 51 = .ok (.aload_n 0, 1) := by decide +kernel
theorem d_M_nextNested_52 : decode m_M_nextNested.2.1 52 = .ok (.getfield 7, 3) := by decide +kernel
theorem d_M_nextNested_55 : decode m_M_nextNested.2.1 55 = .ok (.iload_n 2, 1) := by decide +kernel
theorem d_M_nextNested_56 : decode m_M_nextNested.2.1 56 = .ok (.iaload, 1) := by decide +kernel
theorem d_M_nextNested_57 : decode m_M_nextNested.2.1 57 = .ok (.iconst 2, 1) := by decide +kernel
theorem d_M_nextNested_58 : decode m_M_nextNested.2.1 58 = .ok (.if_icmp .eq 32, 3) := by decide +kernel
theorem d_M_nextNested_61 : decode m_M_nextNested.2.1 61 = .ok (.aload_n 0, 1) := by decide +kernel
theorem d_M_nextNested_62 : decode m_M_nextNested.2.1 62 = .ok (.getfield 7, 3) := by decide +kernel
theorem d_M_nextNested_65 : decode m_M_nextNested.2.1 65 = .ok (.iload_n 2, 1) := by decide +kernel
theorem d_M_nextNested_66 : decode m_M_nextNested.2.1 66 = .ok (.iaload, 1) := by decide +kernel
theorem d_M_nextNested_67 : decode m_M_nextNested.2.1 67 = .ok (.iconst 3, 1) := by decide +kernel
theorem d_M_nextNested_68 : decode m_M_nextNested.2.1 68 = .ok (.if_icmp .ne 18, 3) := by decide +kernel
theorem d_M_nextNested_71 : decode m_M_nextNested.2.1 71 = .ok (.aload_n 0, 1) := by decide +kernel
theorem d_M_nextNested_72 : decode m_M_nextNested.2.1 72 = .ok (.getfield 7, 3) := by decide +kernel
theorem d_M_nextNested_75 : decode m_M_nextNested.2.1 75 = .ok (.aload_n 0, 1) := by decide +kernel
theorem d_M_nextNested_76 : decode m_M_nextNested.2.1 76 = .ok (.getfield 16, 3) := by decide +kernel
theorem d_M_nextNested_79 : decode m_M_nextNested.2.1 79 = .ok (.iload_n 2, 1) := by decide +kernel
theorem d_M_nextNested_80 : decode m_M_nextNested.2.1 80 = .ok (.iaload, 1) := by decide +kernel
theorem d_M_nextNested_81 : decode m_M_nextNested.2.1 81 = .ok (.iaload, 1) := by decide +kernel
theorem d_M_nextNested_82 : decode m_M_nextNested.2.1 82 = .ok (.iconst 2, 1) := by decide +kernel
theorem d_M_nextNested_83 : decode m_M_nextNested.2.1 83 = .ok (.if_icmp .eq 7, 3) := by decide +kernel
theorem d_M_nextNested_86 : decode m_M_nextNested.2.1 86 = .ok (.iconst 1, 1) := by decide +kernel
theorem d_M_nextNested_87 : decode m_M_nextNested.2.1 87 = .ok (.goto 4, 3) := by decide +kernel
theorem d_M_nextNested_90 : decode m_M_nextNested.2.1 90 = .ok (.iconst 0, 1) := by decide +kernel
theorem d_M_nextNested_91 : decode m_M_nextNested.2.1 91 = .ok (.putfield 171, 3) := by decide +kernel
theorem d_M_nextNested_94 : decode m_M_nextNested.2.1 94 = .ok (.aload_n 0, 1) := by decide +kernel
theorem d_M_nextNested_95 : decode m_M_nextNested.2.1 95 = .ok (.getfield 120, 3) := by decide +kernel
theorem d_M_nextNested_98 : decode m_M_nextNested.2.1 98 = .ok (.iconst 1, 1) := by decide +kernel
theorem d_M_nextNested_99 : decode m_M_nextNested.2.1 99 = .ok (.if_icmp .gt 23, 3) := by decide +kernel
theorem d_M_nextNested_102 : decode m_M_nextNested.2.1 102 = .ok (.aload_n 0, 1) := by decide +kernel
theorem d_M_nextNested_103 : decode m_M_nextNested.2.1 103 = .ok (.getfield 40, 3) := by decide +kernel
theorem d_M_nextNested_106 : decode m_M_nextNested.2.1 106 = .ok (.iconst 0, 1) := by decide +kernel
theorem d_M_nextNested_107 : decode m_M_nextNested.2.1 107 = .ok (.iaload, 1) := by decide +kernel
theorem d_M_nextNested_108 : decode m_M_nextNested.2.1 108 = .ok (.bipush 10, 2) := by decide +kernel
theorem d_M_nextNested_110 : decode m_M_nextNested.2.1 110 = .ok (.if_icmp .ne 12, 3) := by decide +kernel
theorem d_M_nextNested_113 : decode m_M_nextNested.2.1 113 = .ok (.aload_n 0, 1) := by decide +kernel
theorem d_M_nextNested_114 : decode m_M_nextNested.2.1 114 = .ok (.getfield 46, 3) := by decide +kernel
theorem d_M_nextNested_117 : decode m_M_nextNested.2.1 117 = .ok (.iconst 0, 1) := by decide +kernel
theorem d_M_nextNested_118 : decode m_M_nextNested.2.1 118 = .ok (.iaload, 1) := by decide +kernel
theorem d_M_nextNested_119 : decode m_M_nextNested.2.1 119 = .ok (.ifCond .lt 8, 3) := by decide +kernel
theorem d_M_nextNested_122 : decode m_M_nextNested.2.1 122 = .ok (.aload_n 0, 1) := by decide +kernel
theorem d_M_nextNested_123 : decode m_M_nextNested.2.1 123 = .ok (.iload_n 2, 1) := by decide +kernel
theorem d_M_nextNested_124 : decode m_M_nextNested.2.1 124 = .ok (.invokevirtual 211, 3) := by decide +kernel
theorem d_M_nextNested_127 : decode m_M_nextNested.2.1 127 = .ok (.iload_n 2, 1) := by decide +kernel
theorem d_M_nextNested_128 : decode m_M_nextNested.2.1 128 = .ok (.ireturn, 1) := by decide +kernel
theorem d_M_nextNested_129 : decode m_M_nextNested.2.1 129 = .ok (.aload_n 0, 1) := by decide +kernel
theorem d_M_nextNested_130 : decode m_M_nextNested.2.1 130 = .ok (.getfield 46, 3) := by decide +kernel
theorem d_M_nextNested_133 : decode m_M_nextNested.2.1 133 = .ok (.iload_n 1, 1) := by decide +kernel
theorem d_M_nextNested_134 : decode m_M_nextNested.2.1 134 = .ok (.iaload, 1) := by decide +kernel
theorem d_M_nextNested_135 : decode m_M_nextNested.2.1 135 = .ok (.ifCond .ne 8, 3) := by decide +kernel
theorem d_M_nextNested_138 : decode m_M_nextNested.2.1 138 = .ok (.aload_n 0, 1) := by decide +kernel
theorem d_M_nextNested_139 : decode m_M_nextNested.2.1 139 = .ok (.iload_n 2, 1) := by decide +kernel
theorem d_M_nextNested_140 : decode m_M_nextNested.2.1 140 = .ok (.invokevirtual 211, 3) := by decide +kernel
theorem d_M_nextNested_143 : decode m_M_nextNested.2.1 143 = .ok (.aload_n 0, 1) := by decide +kernel
theorem d_M_nextNested_144 : decode m_M_nextNested.2.1 144 = .ok (.getfield 46, 3) := by decide +kernel
theorem d_M_nextNested_147 : decode m_M_nextNested.2.1 147 = .ok (.iload_n 1, 1) := by decide +kernel
theorem d_M_nextNested_148 : decode m_M_nextNested.2.1 148 = .ok (.iconst 0, 1) := by decide +kernel
theorem d_M_nextNested_149 : decode m_M_nextNested.2.1 149 = .ok (.iastore, 1) := by decide +kernel
theorem d_M_nextNested_150 : decode m_M_nextNested.2.1 150 = .ok (.aload_n 0, 1) := by decide +kernel
theorem d_M_nextNested_151 : decode m_M_nextNested.2.1 151 = .ok (.invokevirtual 174, 3) := by decide +kernel
theorem d_M_nextNested_154 : decode m_M_nextNested.2.1 154 = .ok (.bipush 73, 2) := by decide +kernel
theorem d_M_nextNested_156 : decode m_M_nextNested.2.1 156 = .ok (.if_icmp .ne 39, 3) := by decide +kernel
theorem d_M_nextNested_159 : decode m_M_nextNested.2.1 159 = .ok (.aload_n 0, 1) := by decide +kernel
theorem d_M_nextNested_160 : decode m_M_nextNested.2.1 160 = .ok (.aload_n 0, 1) := by decide +kernel
theorem d_M_nextNested_161 : decode m_M_nextNested.2.1 161 = .ok (.getfield 7, 3) := by decide +kernel
theorem d_M_nextNested_164 : decode m_M_nextNested.2.1 164 = .ok (.iload_n 2, 1) := by decide +kernel
theorem d_M_nextNested_165 : decode m_M_nextNested.2.1 165 = .ok (.iaload, 1) := by decide +kernel
theorem d_M_nextNested_166 : decode m_M_nextNested.2.1 166 = .ok (.iconst 3, 1) := by decide +kernel
theorem d_M_nextNested_167 : decode m_M_nextNested.2.1 167 = .ok (.if_icmp .ne 7, 3) := by decide +kernel
theorem d_M_nextNested_170 : decode m_M_nextNested.2.1 170 = .ok (.iconst 1, 1) := by decide +kernel
theorem d_M_nextNested_171 : decode m_M_nextNested.2.1 171 = .ok (.goto 4, 3) := by decide +kernel
theorem d_M_nextNested_174 : decode m_M_nextNested.2.1 174 = .ok (.iconst 0, 1) := by decide +kernel
theorem d_M_nextNested_175 : decode m_M_nextNested.2.1 175 = .ok (.putfield 171, 3) := by decide +kernel
theorem d_M_nextNested_178 : decode m_M_nextNested.2.1 178 = .ok (.aload_n 0, 1) := by decide +kernel
theorem d_M_nextNested_179 : decode m_M_nextNested.2.1 179 = .ok (.getfield 171, 3) := by decide +kernel
theorem d_M_nextNested_182 : decode m_M_nextNested.2.1 182 = .ok (.ifCond .eq 7, 3) := by decide +kernel
theorem d_M_nextNested_185 : decode m_M_nextNested.2.1 185 = .ok (.iconst (-1), 1) := by decide +kernel
theorem d_M_nextNested_186 : decode m_M_nextNested.2.1 186 = .ok (.goto 8, 3) := by decide +kernel
theorem d_M_nextNested_189 : decode m_M_nextNested.2.1 189 = .ok (.aload_n 0, 1) := by decide +kernel
theorem d_M_nextNested_190 : decode m_M_nextNested.2.1 190 = .ok (.iload_n 2, 1) := by decide +kernel
theorem d_M_nextNested_191 : decode m_M_nextNested.2.1 191 = .ok (.invokevirtual 202, 3) := by decide +kernel
theorem d_M_nextNested_194 : decode m_M_nextNested.2.1 194 = .ok (.ireturn, 1) := by decide +kernel
theorem d_M_nextNested_195 : decode m_M_nextNested.2.1 195 = .ok (.aload_n 0, 1) := by decide +kernel
theorem d_M_nextNested_196 : decode m_M_nextNested.2.1 196 = .ok (.invokevirtual 205, 3) := by decide +kernel
theorem d_M_nextNested_199 : decode m_M_nextNested.2.1 199 = .ok (.istore_n 3, 1) := by decide +kernel
theorem d_M_nextNested_200 : decode m_M_nextNested.2.1 200 = .ok (.aload_n 0, 1) := by decide +kernel
theorem d_M_nextNested_201 : decode m_M_nextNested.2.1 201 = .ok (.getfield 43, 3) := by decide +kernel
theorem d_M_nextNested_204 : decode m_M_nextNested.2.1 204 = .ok (.iload_n 1, 1) := by decide +kernel
theorem d_M_nextNested_205 : decode m_M_nextNested.2.1 205 = .ok (.aload_n 0, 1) := by decide +kernel
theorem d_M_nextNested_206 : decode m_M_nextNested.2.1 206 = .ok (.iconst 2, 1) := by decide +kernel
theorem d_M_nextNested_207 : decode m_M_nextNested.2.1 207 = .ok (.iload_n 3, 1) := by decide +kernel
theorem d_M_nextNested_208 : decode m_M_nextNested.2.1 208 = .ok (.iload_n 2, 1) := by decide +kernel
theorem d_M_nextNested_209 : decode m_M_nextNested.2.1 209 = .ok (.iconst (-1), 1) := by decide +kernel
theorem d_M_nextNested_210 : decode m_M_nextNested.2.1 210 = .ok (.iconst (-1), 1) := by decide +kernel
theorem d_M_nextNested_211 : decode m_M_nextNested.2.1 211 = .ok (.iconst (-1), 1) := by decide +kernel
theorem d_M_nextNested_212 : decode m_M_nextNested.2.1 212 = .ok (.iconst (-1), 1) := by decide +kernel
theorem d_M_nextNested_213 : decode m_M_nextNested.2.1 213 = .ok (.invokevirtual 190, 3) := by decide +kernel
theorem d_M_nextNested_216 : decode m_M_nextNested.2.1 216 = .ok (.iastore, 1) := by decide +kernel
theorem d_M_nextNested_217 : decode m_M_nextNested.2.1 217 = .ok (.goto (-210), 3) := by decide +kernel
theorem d_M_nextNested_220 : decode m_M_nextNested.2.1 220 = .ok (.iconst (-1), 1) := by decide +kernel
theorem d_M_nextNested_221 : decode m_M_nextNested.2.1 221 = .ok (.ireturn, 1) := by decide +kernel
theorem d_M_enter_0 : decode m_M_enter.2.1 0 = .ok (.aload_n 0, 1) := by decide +kernel
theorem d_M_enter_1 : decode m_M_enter.2.1 1 = .ok (.getfield 37, 3) := by decide +kernel
theorem d_M_enter_4 : decode m_M_enter.2.1 4 = .ok (.aload_n 0, 1) := by decide +kernel
theorem d_M_enter_5 : decode m_M_enter.2.1 5 = .ok (.getfield 110, 3) := by decide +kernel
theorem d_M_enter_8 : decode m_M_enter.2.1 8 = .ok (.iload_n 1, 1) := by decide +kernel
theorem d_M_enter_9 : decode m_M_enter.2.1 9 = .ok (.iastore, 1) := by decide +kernel
theorem d_M_enter_10 : decode m_M_enter.2.1 10 = .ok (.aload_n 0, 1) := by decide +kernel
theorem d_M_enter_11 : decode m_M_enter.2.1 11 = .ok (.dup, 1) := by decide +kernel
theorem d_M_enter_12 : decode m_M_enter.2.1 12 = .ok (.getfield 110, 3) := by decide +kernel
theorem d_M_enter_15 : decode m_M_enter.2.1 15 = .ok (.iconst 1, 1) := by decide +kernel
theorem d_M_enter_16 : decode m_M_enter.2.1 16 = .ok (.iadd, 1) := by decide +kernel
theorem d_M_enter_17 : decode m_M_enter.2.1 17 = .ok (.putfield 110, 3) := by decide +kernel
theorem d_M_enter_20 : decode m_M_enter.2.1 20 = .ok (.return_, 1) := by decide +kernel
theorem d_M_beginArgs_0 : decode m_M_beginArgs.2.1 0 = .ok (.aload_n 0, 1) := by decide +kernel
theorem d_M_beginArgs_1 : decode m_M_beginArgs.2.1 1 = .ok (.bipush 73, 2) := by decide +kernel
theorem d_M_beginArgs_3 : decode m_M_beginArgs.2.1 3 = .ok (.invokevirtual 184, 3) := by decide +kernel
theorem d_M_beginArgs_6 : decode m_M_beginArgs.2.1 6 = .ok (.aload_n 0, 1) := by decide +kernel
theorem d_M_beginArgs_7 : decode m_M_beginArgs.2.1 7 = .ok (.iconst 4, 1) := by decide +kernel
theorem d_M_beginArgs_8 : decode m_M_beginArgs.2.1 8 = .ok (.iload_n 1, 1) := by decide +kernel
theorem d_M_beginArgs_9 : decode m_M_beginArgs.2.1 9 = .ok (.iconst 0, 1) := by decide +kernel
theorem d_M_beginArgs_10 : decode m_M_beginArgs.2.1 10 = .ok (.invokevirtual 217, 3) := by decide +kernel
theorem d_M_beginArgs_13 : decode m_M_beginArgs.2.1 13 = .ok (.aload_n 0, 1) := by decide +kernel
theorem d_M_beginArgs_14 : decode m_M_beginArgs.2.1 14 = .ok (.invokevirtual 221, 3) := by decide +kernel
theorem d_M_beginArgs_17 : decode m_M_beginArgs.2.1 17 = .ok (.ireturn, 1) := by decide +kernel
theorem d_M_nextArgument_0 : decode m_M_nextArgument.2.1 0 = .ok (.aload_n 0, 1) := by decide +kernel
theorem d_M_nextArgument_1 : decode m_M_nextArgument.2.1 1 = .ok (.getfield 120, 3) := by decide +kernel
theorem d_M_nextArgument_4 : decode m_M_nextArgument.2.1 4 = .ok (.iconst 1, 1) := by decide +kernel
theorem d_M_nextArgument_5 : decode m_M_nextArgument.2.1 5 = .ok (.isub, 1) := by decide +kernel
theorem d_M_nextArgument_6 : decode m_M_nextArgument.2.1 6 = .ok (.istore_n 1, 1) := by decide +kernel
theorem d_M_nextArgument_7 : decode m_M_nextArgument.2.1 7 = .ok (.aload_n 0, 1) := by decide +kernel
theorem d_M_nextArgument_8 : decode m_M_nextArgument.2.1 8 = .ok (.getfield 171, 3) := by decide +kernel
theorem d_M_nextArgument_11 : decode m_M_nextArgument.2.1 11 = .ok (.ifCond .ne 197, 3) := by decide +kernel
theorem d_M_nextArgument_14 : decode m_M_nextArgument.2.1 14 = .ok (.aload_n 0, 1) := by decide +kernel
theorem d_M_nextArgument_15 : decode m_M_nextArgument.2.1 15 = .ok (.getfield 46, 3) := by decide +kernel
theorem d_M_nextArgument_18 : decode m_M_nextArgument.2.1 18 = .ok (.iload_n 1, 1) := by decide +kernel
theorem d_M_nextArgument_19 : decode m_M_nextArgument.2.1 19 = .ok (.iaload, 1) := by decide +kernel
theorem d_M_nextArgument_20 : decode m_M_nextArgument.2.1 20 = .ok (.iconst 3, 1) := by decide +kernel
theorem d_M_nextArgument_21 : decode m_M_nextArgument.2.1 21 = .ok (.if_icmp .ge 187, 3) := by decide +kernel
theorem d_M_nextArgument_24 : decode m_M_nextArgument.2.1 24 = .ok (.aload_n 0, 1) := by decide +kernel
theorem d_M_nextArgument_25 : decode m_M_nextArgument.2.1 25 = .ok (.invokevirtual 174, 3) := by decide +kernel
theorem d_M_nextArgument_28 : decode m_M_nextArgument.2.1 28 = .ok (.bipush 76, 2) := by decide +kernel
theorem d_M_nextArgument_30 : decode m_M_nextArgument.2.1 30 = .ok (.if_icmp .ne 178, 3) := by decide +kernel
theorem d_M_nextArgument_33 : decode m_M_nextArgument.2.1 33 = .ok (.aload_n 0, 1) := by decide +kernel
theorem d_M_nextArgument_34 : decode m_M_nextArgument.2.1 34 = .ok (.dup, 1) := by decide +kernel
theorem d_M_nextArgument_35 : decode m_M_nextArgument.2.1 35 = .ok (.getfield 168, 3) := by decide +kernel
theorem d_M_nextArgument_38 : decode m_M_nextArgument.2.1 38 = .ok (.iconst 1, 1) := by decide +kernel
theorem d_M_nextArgument_39 : decode m_M_nextArgument.2.1 39 = .ok (.iadd, 1) := by decide +kernel
theorem d_M_nextArgument_40 : decode m_M_nextArgument.2.1 40 = .ok (.putfield 168, 3) := by decide +kernel
theorem d_M_nextArgument_43 : decode m_M_nextArgument.2.1 43 = .ok (.aload_n 0, 1) := by decide +kernel
theorem d_M_nextArgument_44 : decode m_M_nextArgument.2.1 44 = .ok (.invokevirtual 174, 3) := by decide +kernel
theorem d_M_nextArgument_47 : decode m_M_nextArgument.2.1 47 = .ok (.invokestatic 193, 3) := by decide +kernel
theorem d_M_nextArgument_50 : decode m_M_nextArgument.2.1 50 = .ok (.istore_n 2, 1) := by decide +kernel
theorem d_M_nextArgument_51 : decode m_M_nextArgument.2.1 51 = .ok (.aload_n 0, 1) := by decide +kernel
theorem d_M_nextArgument_52 : decode m_M_nextArgument.2.1 52 = .ok (.dup, 1) := by decide +kernel
theorem d_M_nextArgument_53 : decode m_M_nextArgument.2.1 53 = .ok (.getfield 168, 3) := by decide +kernel
theorem d_M_nextArgument_56 : decode m_M_nextArgument.2.1 56 = .ok (.iconst 1, 1) := by decide +kernel
theorem d_M_nextArgument_57 : decode m_M_nextArgument.2.1 57 = .ok (.iadd, 1) := by decide +kernel
theorem d_M_nextArgument_58 : decode m_M_nextArgument.2.1 58 = .ok (.putfield 168, 3) := by decide +kernel
theorem d_M_nextArgument_61 : decode m_M_nextArgument.2.1 61 = .ok (.aload_n 0, 1) := by decide +kernel
theorem d_M_nextArgument_62 : decode m_M_nextArgument.2.1 62 = .ok (.iload_n 2, 1) := by decide +kernel
theorem d_M_nextArgument_63 : decode m_M_nextArgument.2.1 63 = .ok (.iconst 1, 1) := by decide +kernel
theorem d_M_nextArgument_64 : decode m_M_nextArgument.2.1 64 = .ok (.if_icmp .ge 7, 3) := by decide +kernel
theorem d_M_nextArgument_67 : decode m_M_nextArgument.2.1 67 = .ok (.iconst 1, 1) := by decide +kernel
theorem d_M_nextArgument_68 : decode m_M_nextArgument.2.1 68 = .ok (.goto 4, 3) := by decide +kernel
theorem d_M_nextArgument_71 : decode m_M_nextArgument.2.1 71 = .ok (.iconst 0, 1) := by decide +kernel
theorem d_M_nextArgument_72 : decode m_M_nextArgument.2.1 72 = .ok (.putfield 171, 3) := by decide +kernel
theorem d_M_nextArgument_75 : decode m_M_nextArgument.2.1 75 = .ok (.aload_n 0, 1) := by decide +kernel
theorem d_M_nextArgument_76 : decode m_M_nextArgument.2.1 76 = .ok (.iload_n 2, 1) := by decide +kernel
theorem d_M_nextArgument_77 : decode m_M_nextArgument.2.1 77 = .ok (.invokevirtual 196, 3) := by decide +kernel
theorem d_M_nextArgument_80 : decode m_M_nextArgument.2.1 80 = .ok (.istore_n 3, 1) := by decide +kernel
theorem d_M_nextArgument_81 : decode m_M_nextArgument.2.1 81 = .ok (.aload_n 0, 1) := by decide +kernel
theorem d_M_nextArgument_82 : decode m_M_nextArgument.2.1 82 = .ok (.invokevirtual 174, 3) := by decide +kernel
theorem d_M_nextArgument_85 : decode m_M_nextArgument.2.1 85 = .ok (.bipush 110, 2) := by decide +kernel
theorem d_M_nextArgument_87 : decode m_M_nextArgument.2.1 87 = .ok (.if_icmp .ne 7, 3) := by decide +kernel
theorem d_M_nextArgument_90 : decode m_M_nextArgument.2.1 90 = .ok (.iconst 1, 1) := by decide +kernel
theorem d_M_nextArgument_91 : decode m_M_nextArgument.2.1 91 = .ok (.goto 4, 3) := by decide +kernel
theorem d_M_nextArgument_94 : decode m_M_nextArgument.2.1 94 = .ok (.iconst 0, 1) := by decide +kernel
theorem d_M_nextArgument_95 : decode m_M_nextArgument.2.1 95 = .ok (.istore 4, 2) := by decide +kernel
theorem d_M_nextArgument_97 : decode m_M_nextArgument.2.1 97 = .ok (.aload_n 0, 1) := by decide +kernel
theorem d_M_nextArgument_98 : decode m_M_nextArgument.2.1 98 = .ok (.dup, 1) := by decide +kernel
theorem d_M_nextArgument_99 : decode m_M_nextArgument.2.1 99 = .ok (.getfield 168, 3) := by decide +kernel
theorem d_M_nextArgument_102 : decode m_M_nextArgument.2.1 102 = .ok (.iload 4, 2) := by decide +kernel
theorem d_M_nextArgument_104 : decode m_M_nextArgument.2.1 104 = .ok (.ifCond .eq 7, 3) := by decide +kernel
theorem d_M_nextArgument_107 : decode m_M_nextArgument.2.1 107 = .ok (.iconst 1, 1) := by decide +kernel
theorem d_M_nextArgument_108 : decode m_M_nextArgument.2.1 108 = .ok (.goto 4, 3) := by decide +kernel
theorem d_M_nextArgument_111 : decode m_M_nextArgument.2.1 111 = .ok (.iconst 0, 1) := by decide +kernel
theorem d_M_nextArgument_112 : decode m_M_nextArgument.2.1 112 = .ok (.iadd, 1) := by decide +kernel
theorem d_M_nextArgument_113 : decode m_M_nextArgument.2.1 113 = .ok (.putfield 168, 3) := by decide +kernel
theorem d_M_nextArgument_116 : decode m_M_nextArgument.2.1 116 = .ok (.aload_n 0, 1) := by decide +kernel
theorem d_M_nextArgument_117 : decode m_M_nextArgument.2.1 117 = .ok (.bipush 6, 2) := by decide +kernel
theorem d_M_nextArgument_119 : decode m_M_nextArgument.2.1 119 = .ok (.invokevirtual 181, 3) := by decide +kernel
theorem d_M_nextArgument_122 : decode m_M_nextArgument.2.1 122 = .ok (.istore 5, 2) := by decide +kernel
theorem d_M_nextArgument_124 : decode m_M_nextArgument.2.1 124 = .ok (.aload_n 0, 1) := by decide +kernel
theorem d_M_nextArgument_125 : decode m_M_nextArgument.2.1 125 = .ok (.aload_n 0, 1) := by decide +kernel
theorem d_M_nextArgument_126 : decode m_M_nextArgument.2.1 126 = .ok (.getfield 171, 3) := by decide +kernel
theorem d_M_nextArgument_129 : decode m_M_nextArgument.2.1 129 = .ok (.ifCond .ne 13, 3) := by decide +kernel
theorem d_M_nextArgument_132 : decode m_M_nextArgument.2.1 132 = .ok (.iload 4, 2) := by decide +kernel
theorem d_M_nextArgument_134 : decode m_M_nextArgument.2.1 134 = .ok (.ifCond .eq 12, 3) := by decide +kernel
theorem d_M_nextArgument_137 : decode m_M_nextArgument.2.1 137 = .ok (.iload 5, 2) := by decide +kernel
theorem d_M_nextArgument_139 : decode m_M_nextArgument.2.1 139 = .ok (.ifCond .ne 7, 3) := by decide +kernel
theorem d_M_nextArgument_142 : decode m_M_nextArgument.2.1 142 = .ok (.iconst 1, 1) := by decide +kernel
theorem d_M_nextArgument_143 : decode m_M_nextArgument.2.1 143 = .ok (.goto 4, 3) := by decide +kernel
theorem d_M_nextArgument_146 : decode m_M_nextArgument.2.1 146 = .ok (.iconst 0, 1) := by decide +kernel
theorem d_M_nextArgument_147 : decode m_M_nextArgument.2.1 147 = .ok (.putfield 171, 3) := by decide +kernel
theorem d_M_nextArgument_150 : decode m_M_nextArgument.2.1 150 = .ok (.aload_n 0, 1) := by decide +kernel
theorem d_M_nextArgument_151 : decode m_M_nextArgument.2.1 151 = .ok (.bipush 69, 2) := by decide +kernel
theorem d_M_nextArgument_153 : decode m_M_nextArgument.2.1 153 = .ok (.invokevirtual 184, 3) := by decide +kernel
theorem d_M_nextArgument_156 : decode m_M_nextArgument.2.1 156 = .ok (.aload_n 0, 1) := by decide +kernel
theorem d_M_nextArgument_157 : decode m_M_nextArgument.2.1 157 = .ok (.getfield 49, 3) := by decide +kernel
theorem d_M_nextArgument_160 : decode m_M_nextArgument.2.1 160 = .ok (.iconst 3, 1) := by decide +kernel
theorem d_M_nextArgument_161 : decode m_M_nextArgument.2.1 161 = .ok (.iload_n 1, 1) := by decide +kernel
theorem d_M_nextArgument_162 : decode m_M_nextArgument.2.1 162 = .ok (.imul, 1) := by decide +kernel
theorem d_M_nextArgument_163 : decode m_M_nextArgument.2.1 163 = .ok (.aload_n 0, 1) := by decide +kernel
theorem d_M_nextArgument_164 : decode m_M_nextArgument.2.1 164 = .ok (.getfield 46, 3) := by decide +kernel
theorem d_M_nextArgument_167 : decode m_M_nextArgument.2.1 167 = .ok (.iload_n 1, 1) := by decide +kernel
theorem d_M_nextArgument_168 : decode m_M_nextArgument.2.1 168 = .ok (.iaload, 1) := by decide +kernel
theorem d_M_nextArgument_169 : decode m_M_nextArgument.2.1 169 = .ok (.iadd, 1) := by decide +kernel
theorem d_M_nextArgument_170 : decode m_M_nextArgument.2.1 170 = .ok (.aload_n 0, 1) := by decide +kernel
theorem d_M_nextArgument_171 : decode m_M_nextArgument.2.1 171 = .ok (.bipush 9, 2) := by decide +kernel
theorem d_M_nextArgument_173 : decode m_M_nextArgument.2.1 173 = .ok (.iload 4, 2) := by decide +kernel
theorem d_M_nextArgument_175 : decode m_M_nextArgument.2.1 175 = .ok (.ifCond .eq 9, 3) := by decide +kernel
theorem d_M_nextArgument_178 : decode m_M_nextArgument.2.1 178 = .ok (.iload 5, 2) := by decide +kernel
theorem d_M_nextArgument_180 : decode m_M_nextArgument.2.1 180 = .ok (.ineg, 1) := by decide +kernel
theorem d_M_nextArgument_181 : decode m_M_nextArgument.2.1 181 = .ok (.goto 5, 3) := by decide +kernel
theorem d_M_nextArgument_184 : decode m_M_nextArgument.2.1 184 = .ok (.iload 5, 2) := by decide +kernel
theorem d_M_nextArgument_186 : decode m_M_nextArgument.2.1 186 = .ok (.iload_n 3, 1) := by decide +kernel
theorem d_M_nextArgument_187 : decode m_M_nextArgument.2.1 187 = .ok (.iconst (-1), 1) := by decide +kernel
theorem d_M_nextArgument_188 : decode m_M_nextArgument.2.1 188 = .ok (.iconst (-1), 1) := by decide +kernel
theorem d_M_nextArgument_189 : decode m_M_nextArgument.2.1 189 = .ok (.iconst (-1), 1) := by decide +kernel
theorem d_M_nextArgument_190 : decode m_M_nextArgument.2.1 190 = .ok (.iconst (-1), 1) := by decide +kernel
theorem d_M_nextArgument_191 : decode m_M_nextArgument.2.1 191 = .ok (.invokevirtual 190, 3) := by decide +kernel
theorem d_M_nextArgument_194 : decode m_M_nextArgument.2.1 194 = .ok (.iastore, 1) := by decide +kernel
theorem d_M_nextArgument_195 : decode m_M_nextArgument.2.1 195 = .ok (.aload_n 0, 1) := by decide +kernel
theorem d_M_nextArgument_196 : decode m_M_nextArgument.2.1 196 = .ok (.getfield 46, 3) := by decide +kernel
theorem d_M_nextArgument_199 : decode m_M_nextArgument.2.1 199 = .ok (.iload_n 1, 1) := by decide +kernel
theorem d_M_nextArgument_200 : decode m_M_nextArgument.2.1 200 = .ok (.dup2, 1) := by decide +kernel
theorem d_M_nextArgument_201 : decode m_M_nextArgument.2.1 201 = .ok (.iaload, 1) := by decide +kernel
theorem d_M_nextArgument_202 : decode m_M_nextArgument.2.1 202 = .ok (.iconst 1, 1) := by decide +kernel
theorem d_M_nextArgument_203 : decode m_M_nextArgument.2.1 203 = .ok (.iadd, 1) := by decide +kernel
theorem d_M_nextArgument_204 : decode m_M_nextArgument.2.1 204 = .ok (.iastore, 1) := by decide +kernel
theorem d_M_nextArgument_205 : decode m_M_nextArgument.2.1 205 = .ok (.goto (-198), 3) := by decide +kernel
theorem d_M_nextArgument_208 : decode m_M_nextArgument.2.1 208 = .ok (.aload_n 0, 1) := by decide +kernel
theorem d_M_nextArgument_209 : decode m_M_nextArgument.2.1 209 = .ok (.getfield 171, 3) := by decide +kernel
theorem d_M_nextArgument_212 : decode m_M_nextArgument.2.1 212 = .ok (.ifCond .ne 47, 3) := by decide +kernel
theorem d_M_nextArgument_215 : decode m_M_nextArgument.2.1 215 = .ok (.aload_n 0, 1) := by decide +kernel
theorem d_M_nextArgument_216 : decode m_M_nextArgument.2.1 216 = .ok (.getfield 46, 3) := by decide +kernel
theorem d_M_nextArgument_219 : decode m_M_nextArgument.2.1 219 = .ok (.iload_n 1, 1) := by decide +kernel
theorem d_M_nextArgument_220 : decode m_M_nextArgument.2.1 220 = .ok (.iaload, 1) := by decide +kernel
theorem d_M_nextArgument_221 : decode m_M_nextArgument.2.1 221 = .ok (.ifCond .le 38, 3) := by decide +kernel
theorem d_M_nextArgument_224 : decode m_M_nextArgument.2.1 224 = .ok (.aload_n 0, 1) := by decide +kernel
theorem d_M_nextArgument_225 : decode m_M_nextArgument.2.1 225 = .ok (.invokevirtual 174, 3) := by decide +kernel
theorem d_M_nextArgument_228 : decode m_M_nextArgument.2.1 228 = .ok (.bipush 69, 2) := by decide +kernel
theorem d_M_nextArgument_230 : decode m_M_nextArgument.2.1 230 = .ok (.if_icmp .ne 29, 3) := by decide +kernel
theorem d_M_nextArgument_233 : decode m_M_nextArgument.2.1 233 = .ok (.aload_n 0, 1) := by decide +kernel
theorem d_M_nextArgument_234 : decode m_M_nextArgument.2.1 234 = .ok (.dup, 1) := by decide +kernel
theorem d_M_nextArgument_235 : decode m_M_nextArgument.2.1 235 = .ok (.getfield 168, 3) := by decide +kernel
theorem d_M_nextArgument_238 : decode m_M_nextArgument.2.1 238 = .ok (.iconst 1, 1) := by decide +kernel
theorem d_M_nextArgument_239 : decode m_M_nextArgument.2.1 239 = .ok (.iadd, 1) := by decide +kernel
theorem d_M_nextArgument_240 : decode m_M_nextArgument.2.1 240 = .ok (.putfield 168, 3) := by decide +kernel
theorem d_M_nextArgument_243 : decode m_M_nextArgument.2.1 243 = .ok (.aload_n 0, 1) := by decide +kernel
theorem d_M_nextArgument_244 : decode m_M_nextArgument.2.1 244 = .ok (.dup, 1) := by decide +kernel
theorem d_M_nextArgument_245 : decode m_M_nextArgument.2.1 245 = .ok (.getfield 120, 3) := by decide +kernel
theorem d_M_nextArgument_248 : decode m_M_nextArgument.2.1 248 = .ok (.iconst 1, 1) := by decide +kernel
theorem d_M_nextArgument_249 : decode m_M_nextArgument.2.1 249 = .ok (.isub, 1) := by decide +kernel
theorem d_M_nextArgument_250 : decode m_M_nextArgument.2.1 250 = .ok (.putfield 120, 3) := by decide +kernel
theorem d_M_nextArgument_253 : decode m_M_nextArgument.2.1 253 = .ok (.aload_n 0, 1) := by decide +kernel
theorem d_M_nextArgument_254 : decode m_M_nextArgument.2.1 254 = .ok (.iload_n 1, 1) := by decide +kernel
theorem d_M_nextArgument_255 : decode m_M_nextArgument.2.1 255 = .ok (.invokevirtual 224, 3) := by decide +kernel
theorem d_M_nextArgument_258 : decode m_M_nextArgument.2.1 258 = .ok (.ireturn, 1) := by decide +kernel
theorem d_M_nextArgument_259 : decode m_M_nextArgument.2.1 259 = .ok (.aload_n 0, 1) := by decide +kernel
theorem d_M_nextArgument_260 : decode m_M_nextArgument.2.1 260 = .ok (.aload_n 0, 1) := by decide +kernel
theorem d_M_nextArgument_261 : decode m_M_nextArgument.2.1 261 = .ok (.getfield 171, 3) := by decide +kernel
theorem d_M_nextArgument_264 : decode m_M_nextArgument.2.1 264 = .ok (.ifCond .ne 13, 3) := by decide +kernel
theorem d_M_nextArgument_267 : decode m_M_nextArgument.2.1 267 = .ok (.aload_n 0, 1) := by decide +kernel
theorem d_M_nextArgument_268 : decode m_M_nextArgument.2.1 268 = .ok (.getfield 46, 3) := by decide +kernel
theorem d_M_nextArgument_271 : decode m_M_nextArgument.2.1 271 = .ok (.iload_n 1, 1) := by decide +kernel
theorem d_M_nextArgument_272 : decode m_M_nextArgument.2.1 272 = .ok (.iaload, 1) := by decide +kernel
theorem d_M_nextArgument_273 : decode m_M_nextArgument.2.1 273 = .ok (.iconst 3, 1) := by decide +kernel
theorem d_M_nextArgument_274 : decode m_M_nextArgument.2.1 274 = .ok (.if_icmp .ne 7, 3) := by decide +kernel
theorem d_M_nextArgument_277 : decode m_M_nextArgument.2.1 277 = .ok (.iconst 1, 1) := by decide +kernel
theorem d_M_nextArgument_278 : decode m_M_nextArgument.2.1 278 = .ok (.goto 4, 3) := by decide +kernel
theorem d_M_nextArgument_281 : decode m_M_nextArgument.2.1 281 = .ok (.iconst 0, 1) := by decide +kernel
theorem d_M_nextArgument_282 : decode m_M_nextArgument.2.1 282 = .ok (.putfield 171, 3) := by decide +kernel
theorem d_M_nextArgument_285 : decode m_M_nextArgument.2.1 285 = .ok (.iconst (-1), 1) := by decide +kernel
theorem d_M_nextArgument_286 : decode m_M_nextArgument.2.1 286 = .ok (.ireturn, 1) := by decide +kernel
theorem d_M_builtinOf_0 : decode m_M_builtinOf.2.1 0 = .ok (.iconst (-1), 1) := by decide +kernel
theorem d_M_builtinOf_1 : decode m_M_builtinOf.2.1 1 = .ok (.istore_n 1, 1) := by decide +kernel
theorem d_M_builtinOf_2 : decode m_M_builtinOf.2.1 2 = .ok (.iconst 0, 1) := by decide +kernel
theorem d_M_builtinOf_3 : decode m_M_builtinOf.2.1 3 = .ok (.istore_n 2, 1) := by decide +kernel
theorem d_M_builtinOf_4 : decode m_M_builtinOf.2.1 4 = .ok (.iload_n 2, 1) := by decide +kernel
theorem d_M_builtinOf_5 : decode m_M_builtinOf.2.1 5 = .ok (.bipush 8, 2) := by decide +kernel
theorem d_M_builtinOf_7 : decode m_M_builtinOf.2.1 7 = .ok (.if_icmp .ge 23, 3) := by decide +kernel
theorem d_M_builtinOf_10 : decode m_M_builtinOf.2.1 10 = .ok (.iload_n 2, 1) := by decide +kernel
theorem d_M_builtinOf_11 : decode m_M_builtinOf.2.1 11 = .ok (.invokestatic 127, 3) := by decide +kernel
theorem d_M_builtinOf_14 : decode m_M_builtinOf.2.1 14 = .ok (.iload_n 0, 1) := by decide +kernel
theorem d_M_builtinOf_15 : decode m_M_builtinOf.2.1 15 = .ok (.if_icmp .ne 7, 3) := by decide +kernel
theorem d_M_builtinOf_18 : decode m_M_builtinOf.2.1 18 = .ok (.iload_n 2, 1) := by decide +kernel
theorem d_M_builtinOf_19 : decode m_M_builtinOf.2.1 19 = .ok (.goto 4, 3) := by decide +kernel
theorem d_M_builtinOf_22 : decode m_M_builtinOf.2.1 22 = .ok (.iload_n 1, 1) := by decide +kernel
theorem d_M_builtinOf_23 : decode m_M_builtinOf.2.1 23 = .ok (.istore_n 1, 1) := by decide +kernel
theorem d_M_builtinOf_24 : decode m_M_builtinOf.2.1 24 = .ok (.iinc 2 1, 3) := by decide +kernel
theorem d_M_builtinOf_27 : decode m_M_builtinOf.2.1 27 = .ok (.goto (-23), 3) := by decide +kernel
theorem d_M_builtinOf_30 : decode m_M_builtinOf.2.1 30 = .ok (.iload_n 1, 1) := by decide +kernel
theorem d_M_builtinOf_31 : decode m_M_builtinOf.2.1 31 = .ok (.ireturn, 1) := by decide +kernel
theorem d_M_makeBuiltin_0 : decode m_M_makeBuiltin.2.1 0 = .ok (.aload_n 0, 1) := by decide +kernel
theorem d_M_makeBuiltin_1 : decode m_M_makeBuiltin.2.1 1 = .ok (.iconst 0, 1) := by decide +kernel
theorem d_M_makeBuiltin_2 : decode m_M_makeBuiltin.2.1 2 = .ok (.iload_n 1, 1) := by decide +kernel
theorem d_M_makeBuiltin_3 : decode m_M_makeBuiltin.2.1 3 = .ok (.iconst (-1), 1) := by decide +kernel
theorem d_M_makeBuiltin_4 : decode m_M_makeBuiltin.2.1 4 = .ok (.iconst (-1), 1) := by decide +kernel
theorem d_M_makeBuiltin_5 : decode m_M_makeBuiltin.2.1 5 = .ok (.iconst (-1), 1) := by decide +kernel
theorem d_M_makeBuiltin_6 : decode m_M_makeBuiltin.2.1 6 = .ok (.iconst (-1), 1) := by decide +kernel
theorem d_M_makeBuiltin_7 : decode m_M_makeBuiltin.2.1 7 = .ok (.iconst (-1), 1) := by decide +kernel
theorem d_M_makeBuiltin_8 : decode m_M_makeBuiltin.2.1 8 = .ok (.invokevirtual 190, 3) := by decide +kernel
theorem d_M_makeBuiltin_11 : decode m_M_makeBuiltin.2.1 11 = .ok (.ireturn, 1) := by decide +kernel
theorem d_M_filled_0 : decode m_M_filled.2.1 0 = .ok (.aload_n 0, 1) := by decide +kernel
theorem d_M_filled_1 : decode m_M_filled.2.1 1 = .ok (.iconst 3, 1) := by decide +kernel
theorem d_M_filled_2 : decode m_M_filled.2.1 2 = .ok (.iconst 0, 1) := by decide +kernel
theorem d_M_filled_3 : decode m_M_filled.2.1 3 = .ok (.aload_n 0, 1) := by decide +kernel
theorem d_M_filled_4 : decode m_M_filled.2.1 4 = .ok (.getfield 43, 3) := by decide +kernel
theorem d_M_filled_7 : decode m_M_filled.2.1 7 = .ok (.iload_n 1, 1) := by decide +kernel
theorem d_M_filled_8 : decode m_M_filled.2.1 8 = .ok (.iaload, 1) := by decide +kernel
theorem d_M_filled_9 : decode m_M_filled.2.1 9 = .ok (.iconst (-1), 1) := by decide +kernel
theorem d_M_filled_10 : decode m_M_filled.2.1 10 = .ok (.aload_n 0, 1) := by decide +kernel
theorem d_M_filled_11 : decode m_M_filled.2.1 11 = .ok (.getfield 49, 3) := by decide +kernel
theorem d_M_filled_14 : decode m_M_filled.2.1 14 = .ok (.iconst 3, 1) := by decide +kernel
theorem d_M_filled_15 : decode m_M_filled.2.1 15 = .ok (.iload_n 1, 1) := by decide +kernel
theorem d_M_filled_16 : decode m_M_filled.2.1 16 = .ok (.imul, 1) := by decide +kernel
theorem d_M_filled_17 : decode m_M_filled.2.1 17 = .ok (.iaload, 1) := by decide +kernel
theorem d_M_filled_18 : decode m_M_filled.2.1 18 = .ok (.aload_n 0, 1) := by decide +kernel
theorem d_M_filled_19 : decode m_M_filled.2.1 19 = .ok (.getfield 49, 3) := by decide +kernel
theorem d_M_filled_22 : decode m_M_filled.2.1 22 = .ok (.iconst 3, 1) := by decide +kernel
theorem d_M_filled_23 : decode m_M_filled.2.1 23 = .ok (.iload_n 1, 1) := by decide +kernel
theorem d_M_filled_24 : decode m_M_filled.2.1 24 = .ok (.imul, 1) := by decide +kernel
theorem d_M_filled_25 : decode m_M_filled.2.1 25 = .ok (.iconst 1, 1) := by decide +kernel
theorem d_M_filled_26 : decode m_M_filled.2.1 26 = .ok (.iadd, 1) := by decide +kernel
theorem d_M_filled_27 : decode m_M_filled.2.1 27 = .ok (.iaload, 1) := by decide +kernel
theorem d_M_filled_28 : decode m_M_filled.2.1 28 = .ok (.aload_n 0, 1) := by decide +kernel
theorem d_M_filled_29 : decode m_M_filled.2.1 29 = .ok (.getfield 49, 3) := by decide +kernel
theorem d_M_filled_32 : decode m_M_filled.2.1 32 = .ok (.iconst 3, 1) := by decide +kernel
theorem d_M_filled_33 : decode m_M_filled.2.1 33 = .ok (.iload_n 1, 1) := by decide +kernel
theorem d_M_filled_34 : decode m_M_filled.2.1 34 = .ok (.imul, 1) := by decide +kernel
theorem d_M_filled_35 : decode m_M_filled.2.1 35 = .ok (.iconst 2, 1) := by decide +kernel
theorem d_M_filled_36 : decode m_M_filled.2.1 36 = .ok (.iadd, 1) := by decide +kernel
theorem d_M_filled_37 : decode m_M_filled.2.1 37 = .ok (.iaload, 1) := by decide +kernel
theorem d_M_filled_38 : decode m_M_filled.2.1 38 = .ok (.invokevirtual 190, 3) := by decide +kernel
theorem d_M_filled_41 : decode m_M_filled.2.1 41 = .ok (.istore_n 2, 1) := by decide +kernel
theorem d_M_filled_42 : decode m_M_filled.2.1 42 = .ok (.aload_n 0, 1) := by decide +kernel
theorem d_M_filled_43 : decode m_M_filled.2.1 43 = .ok (.getfield 120, 3) := by decide +kernel
theorem d_M_filled_46 : decode m_M_filled.2.1 46 = .ok (.ifCond .le 26, 3) := by decide +kernel
theorem d_M_filled_49 : decode m_M_filled.2.1 49 = .ok (.aload_n 0, 1) := by decide +kernel
theorem d_M_filled_50 : decode m_M_filled.2.1 50 = .ok (.getfield 40, 3) := by decide +kernel
theorem d_M_filled_53 : decode m_M_filled.2.1 53 = .ok (.aload_n 0, 1) := by decide +kernel
theorem d_M_filled_54 : decode m_M_filled.2.1 54 = .ok (.getfield 120, 3) := by decide +kernel
theorem d_M_filled_57 : decode m_M_filled.2.1 57 = .ok (.iconst 1, 1) := by decide +kernel
theorem d_M_filled_58 : decode m_M_filled.2.1 58 = .ok (.isub, 1) := by decide +kernel
theorem d_M_filled_59 : decode m_M_filled.2.1 59 = .ok (.iaload, 1) := by decide +kernel
theorem d_M_filled_60 : decode m_M_filled.2.1 60 = .ok (.bipush 8, 2) := by decide +kernel
theorem d_M_filled_62 : decode m_M_filled.2.1 62 = .ok (.if_icmp .ne 10, 3) := by decide +kernel
theorem d_M_filled_65 : decode m_M_filled.2.1 65 = .ok (.aload_n 0, 1) := by decide +kernel
theorem d_M_filled_66 : decode m_M_filled.2.1 66 = .ok (.iconst 1, 1) := by decide +kernel
theorem d_M_filled_67 : decode m_M_filled.2.1 67 = .ok (.putfield 227, 3) := by decide +kernel
theorem d_M_filled_70 : decode m_M_filled.2.1 70 = .ok (.iload_n 2, 1) := by decide +kernel
theorem d_M_filled_71 : decode m_M_filled.2.1 71 = .ok (.ireturn, 1) := by decide +kernel
theorem d_M_filled_72 : decode m_M_filled.2.1 72 = .ok (.aload_n 0, 1) := by decide +kernel
theorem d_M_filled_73 : decode m_M_filled.2.1 73 = .ok (.getfield 120, 3) := by decide +kernel
theorem d_M_filled_76 : decode m_M_filled.2.1 76 = .ok (.iconst 1, 1) := by decide +kernel
theorem d_M_filled_77 : decode m_M_filled.2.1 77 = .ok (.if_icmp .gt 23, 3) := by decide +kernel
theorem d_M_filled_80 : decode m_M_filled.2.1 80 = .ok (.aload_n 0, 1) := by decide +kernel
theorem d_M_filled_81 : decode m_M_filled.2.1 81 = .ok (.getfield 40, 3) := by decide +kernel
theorem d_M_filled_84 : decode m_M_filled.2.1 84 = .ok (.iconst 0, 1) := by decide +kernel
theorem d_M_filled_85 : decode m_M_filled.2.1 85 = .ok (.iaload, 1) := by decide +kernel
theorem d_M_filled_86 : decode m_M_filled.2.1 86 = .ok (.bipush 10, 2) := by decide +kernel
theorem d_M_filled_88 : decode m_M_filled.2.1 88 = .ok (.if_icmp .ne 12, 3) := by decide +kernel
theorem d_M_filled_91 : decode m_M_filled.2.1 91 = .ok (.aload_n 0, 1) := by decide +kernel
theorem d_M_filled_92 : decode m_M_filled.2.1 92 = .ok (.getfield 46, 3) := by decide +kernel
theorem d_M_filled_95 : decode m_M_filled.2.1 95 = .ok (.iconst 0, 1) := by decide +kernel
theorem d_M_filled_96 : decode m_M_filled.2.1 96 = .ok (.iaload, 1) := by decide +kernel
theorem d_M_filled_97 : decode m_M_filled.2.1 97 = .ok (.ifCond .lt 8, 3) := by decide +kernel
theorem d_M_filled_100 : decode m_M_filled.2.1 100 = .ok (.aload_n 0, 1) := by decide +kernel
theorem d_M_filled_101 : decode m_M_filled.2.1 101 = .ok (.iload_n 2, 1) := by decide +kernel
theorem d_M_filled_102 : decode m_M_filled.2.1 102 = .ok (.invokevirtual 211, 3) := by decide +kernel
theorem d_M_filled_105 : decode m_M_filled.2.1 105 = .ok (.iload_n 2, 1) := by decide +kernel
theorem d_M_filled_106 : decode m_M_filled.2.1 106 = .ok (.ireturn, 1) := by decide +kernel
theorem d_M_settle_0 : decode m_M_settle.2.1 0 = .ok (.iload_n 1, 1) := by decide +kernel
theorem d_M_settle_1 : decode m_M_settle.2.1 1 = .ok (.istore_n 2, 1) := by decide +kernel
theorem d_M_settle_2 : decode m_M_settle.2.1 2 = .ok (.aload_n 0, 1) := by decide +kernel
theorem d_M_settle_3 : decode m_M_settle.2.1 3 = .ok (.getfield 227, 3) := by decide +kernel
theorem d_M_settle_6 : decode m_M_settle.2.1 6 = .ok (.ifCond .eq 47, 3) := by decide +kernel
theorem d_M_settle_9 : decode m_M_settle.2.1 9 = .ok (.aload_n 0, 1) := by decide +kernel
theorem d_M_settle_10 : decode m_M_settle.2.1 10 = .ok (.getfield 171, 3) := by decide +kernel
theorem d_M_settle_13 : decode m_M_settle.2.1 13 = .ok (.ifCond .ne 40, 3) := by decide +kernel
theorem d_M_settle_16 : decode m_M_settle.2.1 16 = .ok (.aload_n 0, 1) := by decide +kernel
theorem d_M_settle_17 : decode m_M_settle.2.1 17 = .ok (.iconst 0, 1) := by decide +kernel
theorem d_M_settle_18 : decode m_M_settle.2.1 18 = .ok (.putfield 227, 3) := by decide +kernel
theorem d_M_settle_21 : decode m_M_settle.2.1 21 = .ok (.aload_n 0, 1) := by decide +kernel
theorem d_M_settle_22 : decode m_M_settle.2.1 22 = .ok (.getfield 43, 3) := by decide +kernel
theorem d_M_settle_25 : decode m_M_settle.2.1 25 = .ok (.aload_n 0, 1) := by decide +kernel
theorem d_M_settle_26 : decode m_M_settle.2.1 26 = .ok (.getfield 120, 3) := by decide +kernel
theorem d_M_settle_29 : decode m_M_settle.2.1 29 = .ok (.iconst 1, 1) := by decide +kernel
theorem d_M_settle_30 : decode m_M_settle.2.1 30 = .ok (.isub, 1) := by decide +kernel
theorem d_M_settle_31 : decode m_M_settle.2.1 31 = .ok (.iload_n 2, 1) := by decide +kernel
theorem d_M_settle_32 : decode m_M_settle.2.1 32 = .ok (.iastore, 1) := by decide +kernel
theorem d_M_settle_33 : decode m_M_settle.2.1 33 = .ok (.aload_n 0, 1) := by decide +kernel
theorem d_M_settle_34 : decode m_M_settle.2.1 34 = .ok (.getfield 46, 3) := by decide +kernel
theorem d_M_settle_37 : decode m_M_settle.2.1 37 = .ok (.aload_n 0, 1) := by decide +kernel
theorem d_M_settle_38 : decode m_M_settle.2.1 38 = .ok (.getfield 120, 3) := by decide +kernel
theorem d_M_settle_41 : decode m_M_settle.2.1 41 = .ok (.iconst 1, 1) := by decide +kernel
theorem d_M_settle_42 : decode m_M_settle.2.1 42 = .ok (.isub, 1) := by decide +kernel
theorem d_M_settle_43 : decode m_M_settle.2.1 43 = .ok (.iconst 0, 1) := by decide +kernel
theorem d_M_settle_44 : decode m_M_settle.2.1 44 = .ok (.iastore, 1) := by decide +kernel
theorem d_M_settle_45 : decode m_M_settle.2.1 45 = .ok (.aload_n 0, 1) := by decide +kernel
theorem d_M_settle_46 : decode m_M_settle.2.1 46 = .ok (.invokevirtual 230, 3) := by decide +kernel
theorem d_M_settle_49 : decode m_M_settle.2.1 49 = .ok (.istore_n 2, 1) := by decide +kernel
theorem d_M_settle_50 : decode m_M_settle.2.1 50 = .ok (.goto (-48), 3) := by decide +kernel
theorem d_M_settle_53 : decode m_M_settle.2.1 53 = .ok (.iload_n 2, 1) := by decide +kernel
theorem d_M_settle_54 : decode m_M_settle.2.1 54 = .ok (.ireturn, 1) := by decide +kernel
theorem d_M_readType_0 : decode m_M_readType.2.1 0 = .ok (.aload_n 0, 1) := by decide +kernel
theorem d_M_readType_1 : decode m_M_readType.2.1 1 = .ok (.invokevirtual 174, 3) := by decide +kernel
theorem d_M_readType_4 : decode m_M_readType.2.1 4 = .ok (.istore_n 1, 1) := by decide +kernel
theorem d_M_readType_5 : decode m_M_readType.2.1 5 = .ok (.iload_n 1, 1) := by decide +kernel
theorem d_M_readType_6 : decode m_M_readType.2.1 6 = .ok (.invokestatic 193, 3) := by decide +kernel
theorem d_M_readType_9 : decode m_M_readType.2.1 9 = .ok (.istore_n 2, 1) := by decide +kernel
theorem d_M_readType_10 : decode m_M_readType.2.1 10 = .ok (.iload_n 2, 1) := by decide +kernel
theorem d_M_readType_11 : decode m_M_readType.2.1 11 = .ok (.ifCond .lt 19, 3) := by decide +kernel
theorem d_M_readType_14 : decode m_M_readType.2.1 14 = .ok (.aload_n 0, 1) := by decide +kernel
theorem d_M_readType_15 : decode m_M_readType.2.1 15 = .ok (.dup, 1) := by decide +kernel
theorem d_M_readType_16 : decode m_M_readType.2.1 16 = .ok (.getfield 168, 3) := by decide +kernel
theorem d_M_readType_19 : decode m_M_readType.2.1 19 = .ok (.iconst 1, 1) := by decide +kernel
theorem d_M_readType_20 : decode m_M_readType.2.1 20 = .ok (.iadd, 1) := by decide +kernel
theorem d_M_readType_21 : decode m_M_readType.2.1 21 = .ok (.putfield 168, 3) := by decide +kernel
theorem d_M_readType_24 : decode m_M_readType.2.1 24 = .ok (.aload_n 0, 1) := by decide +kernel
theorem d_M_readType_25 : decode m_M_readType.2.1 25 = .ok (.iload_n 2, 1) := by decide +kernel
theorem d_M_readType_26 : decode m_M_readType.2.1 26 = .ok (.invokevirtual 196, 3) := by decide +kernel
theorem d_M_readType_29 : decode m_M_readType.2.1 29 = .ok (.ireturn, 1) := by decide +kernel
theorem d_M_readType_30 : decode m_M_readType.2.1 30 = .ok (.iload_n 1, 1) := by decide +kernel
theorem d_M_readType_31 : decode m_M_readType.2.1 31 = .ok (.bipush 83, 2) := by decide +kernel
theorem d_M_readType_33 : decode m_M_readType.2.1 33 = .ok (.if_icmp .ne 56, 3) := by decide +kernel
theorem d_M_readType_36 : decode m_M_readType.2.1 36 = .ok (.aload_n 0, 1) := by decide +kernel
theorem d_M_readType_37 : decode m_M_readType.2.1 37 = .ok (.invokevirtual 199, 3) := by decide +kernel
theorem d_M_readType_40 : decode m_M_readType.2.1 40 = .ok (.istore_n 3, 1) := by decide +kernel
theorem d_M_readType_41 : decode m_M_readType.2.1 41 = .ok (.aload_n 0, 1) := by decide +kernel
theorem d_M_readType_42 : decode m_M_readType.2.1 42 = .ok (.getfield 171, 3) := by decide +kernel
theorem d_M_readType_45 : decode m_M_readType.2.1 45 = .ok (.ifCond .ne 26, 3) := by decide +kernel
theorem d_M_readType_48 : decode m_M_readType.2.1 48 = .ok (.aload_n 0, 1) := by decide +kernel
theorem d_M_readType_49 : decode m_M_readType.2.1 49 = .ok (.getfield 7, 3) := by decide +kernel
theorem d_M_readType_52 : decode m_M_readType.2.1 52 = .ok (.iload_n 3, 1) := by decide +kernel
theorem d_M_readType_53 : decode m_M_readType.2.1 53 = .ok (.iaload, 1) := by decide +kernel
theorem d_M_readType_54 : decode m_M_readType.2.1 54 = .ok (.iconst 1, 1) := by decide +kernel
theorem d_M_readType_55 : decode m_M_readType.2.1 55 = .ok (.if_icmp .ne 16, 3) := by decide +kernel
theorem d_M_readType_58 : decode m_M_readType.2.1 58 = .ok (.aload_n 0, 1) := by decide +kernel
theorem d_M_readType_59 : decode m_M_readType.2.1 59 = .ok (.invokevirtual 174, 3) := by decide +kernel
theorem d_M_readType_62 : decode m_M_readType.2.1 62 = .ok (.bipush 73, 2) := by decide +kernel
theorem d_M_readType_64 : decode m_M_readType.2.1 64 = .ok (.if_icmp .ne 7, 3) := by decide +kernel
theorem d_M_readType_67 : decode m_M_readType.2.1 67 = .ok (.iconst 1, 1) := by decide +kernel
theorem d_M_readType_68 : decode m_M_readType.2.1 68 = .ok (.goto 4, 3) := by decide +kernel
theorem d_M_readType_71 : decode m_M_readType.2.1 71 = .ok (.iconst 0, 1) := by decide +kernel
theorem d_M_readType_72 : decode m_M_readType.2.1 72 = .ok (.istore 4, 2) := by decide +kernel
theorem d_M_readType_74 : decode m_M_readType.2.1 74 = .ok (.iload 4, 2) := by decide +kernel
theorem d_M_readType_76 : decode m_M_readType.2.1 76 = .ok (.ifCond .eq 11, 3) := by decide +kernel
theorem d_M_readType_79 : decode m_M_readType.2.1 79 = .ok (.aload_n 0, 1) := by decide +kernel
theorem d_M_readType_80 : decode m_M_readType.2.1 80 = .ok (.iload_n 3, 1) := by decide +kernel
theorem d_M_readType_81 : decode m_M_readType.2.1 81 = .ok (.invokevirtual 202, 3) := by decide +kernel
theorem d_M_readType_84 : decode m_M_readType.2.1 84 = .ok (.goto 4, 3) := by decide +kernel
theorem d_M_readType_87 : decode m_M_readType.2.1 87 = .ok (.iload_n 3, 1) := by decide +kernel
theorem d_M_readType_88 : decode m_M_readType.2.1 88 = .ok (.ireturn, 1) := by decide +kernel
theorem d_M_readType_89 : decode m_M_readType.2.1 89 = .ok (.iload_n 1, 1) := by decide +kernel
theorem d_M_readType_90 : decode m_M_readType.2.1 90 = .ok (.invokestatic 178, 3) := by decide +kernel
theorem d_M_readType_93 : decode m_M_readType.2.1 93 = .ok (.ifCond .eq 43, 3) := by decide +kernel
theorem d_M_readType_96 : decode m_M_readType.2.1 96 = .ok (.aload_n 0, 1) := by decide +kernel
theorem d_M_readType_97 : decode m_M_readType.2.1 97 = .ok (.aload_n 0, 1) := by decide +kernel
theorem d_M_readType_98 : decode m_M_readType.2.1 98 = .ok (.invokevirtual 205, 3) := by decide +kernel
theorem d_M_readType_101 : decode m_M_readType.2.1 101 = .ok (.invokevirtual 208, 3) := by decide +kernel
theorem d_M_readType_104 : decode m_M_readType.2.1 104 = .ok (.istore_n 3, 1) := by decide +kernel
theorem d_M_readType_105 : decode m_M_readType.2.1 105 = .ok (.aload_n 0, 1) := by decide +kernel
theorem d_M_readType_106 : decode m_M_readType.2.1 106 = .ok (.iload_n 3, 1) := by decide +kernel
theorem d_M_readType_107 : decode m_M_readType.2.1 107 = .ok (.invokevirtual 211, 3) := by decide +kernel
theorem d_M_readType_110 : decode m_M_readType.2.1 110 = .ok (.aload_n 0, 1) := by decide +kernel
theorem d_M_readType_111 : decode m_M_readType.2.1 111 = .ok (.invokevirtual 174, 3) := by decide +kernel
theorem d_M_readType_114 : decode m_M_readType.2.1 114 = .ok (.bipush 73, 2) := by decide +kernel
theorem d_M_readType_116 : decode m_M_readType.2.1 116 = .ok (.if_icmp .ne 18, 3) := by decide +kernel
theorem d_M_readType_119 : decode m_M_readType.2.1 119 = .ok (.aload_n 0, 1) := by decide +kernel
theorem d_M_readType_120 : decode m_M_readType.2.1 120 = .ok (.getfield 171, 3) := by decide +kernel
theorem d_M_readType_123 : decode m_M_readType.2.1 123 = .ok (.ifCond .ne 11, 3) := by decide +kernel
theorem d_M_readType_126 : decode m_M_readType.2.1 126 = .ok (.aload_n 0, 1) := by decide +kernel
theorem d_M_readType_127 : decode m_M_readType.2.1 127 = .ok (.iload_n 3, 1) := by decide +kernel
theorem d_M_readType_128 : decode m_M_readType.2.1 128 = .ok (.invokevirtual 202, 3) := by decide +kernel
theorem d_M_readType_131 : decode m_M_readType.2.1 131 = .ok (.goto 4, 3) := by decide +kernel
theorem d_M_readType_134 : decode m_M_readType.2.1 134 = .ok (.iload_n 3, 1) := by decide +kernel
theorem d_M_readType_135 : decode m_M_readType.2.1 135 = .ok (.ireturn, 1) := by decide +kernel
theorem d_M_readType_136 : decode m_M_readType.2.1 136 = .ok (.aload_n 0, 1) := by decide +kernel
theorem d_M_readType_137 : decode m_M_readType.2.1 137 = .ok (.dup, 1) := by decide +kernel
theorem d_M_readType_138 : decode m_M_readType.2.1 138 = .ok (.getfield 168, 3) := by decide +kernel
theorem d_M_readType_141 : decode m_M_readType.2.1 141 = .ok (.iconst 1, 1) := by decide +kernel
theorem d_M_readType_142 : decode m_M_readType.2.1 142 = .ok (.iadd, 1) := by decide +kernel
theorem d_M_readType_143 : decode m_M_readType.2.1 143 = .ok (.putfield 168, 3) := by decide +kernel
theorem d_M_readType_146 : decode m_M_readType.2.1 146 = .ok (.iload_n 1, 1) := by decide +kernel
theorem d_M_readType_147 : decode m_M_readType.2.1 147 = .ok (.bipush 78, 2) := by decide +kernel
theorem d_M_readType_149 : decode m_M_readType.2.1 149 = .ok (.if_icmp .ne 8, 3) := by decide +kernel
theorem d_M_readType_152 : decode m_M_readType.2.1 152 = .ok (.aload_n 0, 1) := by decide +kernel
theorem d_M_readType_153 : decode m_M_readType.2.1 153 = .ok (.invokevirtual 214, 3) := by decide +kernel
theorem d_M_readType_156 : decode m_M_readType.2.1 156 = .ok (.ireturn, 1) := by decide +kernel
theorem d_M_readType_157 : decode m_M_readType.2.1 157 = .ok (.iload_n 1, 1) := by decide +kernel
theorem d_M_readType_158 : decode m_M_readType.2.1 158 = .ok (.bipush 65, 2) := by decide +kernel
theorem d_M_readType_160 : decode m_M_readType.2.1 160 = .ok (.if_icmp .ne 47, 3) := by decide +kernel
theorem d_M_readType_163 : decode m_M_readType.2.1 163 = .ok (.aload_n 0, 1) := by decide +kernel
theorem d_M_readType_164 : decode m_M_readType.2.1 164 = .ok (.iconst 3, 1) := by decide +kernel
theorem d_M_readType_165 : decode m_M_readType.2.1 165 = .ok (.invokevirtual 181, 3) := by decide +kernel
theorem d_M_readType_168 : decode m_M_readType.2.1 168 = .ok (.istore_n 3, 1) := by decide +kernel
theorem d_M_readType_169 : decode m_M_readType.2.1 169 = .ok (.aload_n 0, 1) := by decide +kernel
theorem d_M_readType_170 : decode m_M_readType.2.1 170 = .ok (.aload_n 0, 1) := by decide +kernel
theorem d_M_readType_171 : decode m_M_readType.2.1 171 = .ok (.getfield 171, 3) := by decide +kernel
theorem d_M_readType_174 : decode m_M_readType.2.1 174 = .ok (.ifCond .ne 8, 3) := by decide +kernel
theorem d_M_readType_177 : decode m_M_readType.2.1 177 = .ok (.iload_n 3, 1) := by decide +kernel
theorem d_M_readType_178 : decode m_M_readType.2.1 178 = .ok (.iconst 1, 1) := by decide +kernel
theorem d_M_readType_179 : decode m_M_readType.2.1 179 = .ok (.if_icmp .ge 7, 3) := by decide +kernel
theorem d_M_readType_182 : decode m_M_readType.2.1 182 = .ok (.iconst 1, 1) := by decide +kernel
theorem d_M_readType_183 : decode m_M_readType.2.1 183 = .ok (.goto 4, 3) := by decide +kernel
theorem d_M_readType_186 : decode m_M_readType.2.1 186 = .ok (.iconst 0, 1) := by decide +kernel
theorem d_M_readType_187 : decode m_M_readType.2.1 187 = .ok (.putfield 171, 3) := by decide +kernel
theorem d_M_readType_190 : decode m_M_readType.2.1 190 = .ok (.aload_n 0, 1) := by decide +kernel
theorem d_M_readType_191 : decode m_M_readType.2.1 191 = .ok (.bipush 95, 2) := by decide +kernel
theorem d_M_readType_193 : decode m_M_readType.2.1 193 = .ok (.invokevirtual 184, 3) := by decide +kernel
theorem d_M_readType_196 : decode m_M_readType.2.1 196 = .ok (.aload_n 0, 1) := by decide +kernel
theorem d_M_readType_197 : decode m_M_readType.2.1 197 = .ok (.bipush 7, 2) := by decide +kernel
theorem d_M_readType_199 : decode m_M_readType.2.1 199 = .ok (.bipush 7, 2) := by decide +kernel
theorem d_M_readType_201 : decode m_M_readType.2.1 201 = .ok (.iload_n 3, 1) := by decide +kernel
theorem d_M_readType_202 : decode m_M_readType.2.1 202 = .ok (.invokevirtual 217, 3) := by decide +kernel
theorem d_M_readType_205 : decode m_M_readType.2.1 205 = .ok (.iconst (-1), 1) := by decide +kernel
theorem d_M_readType_206 : decode m_M_readType.2.1 206 = .ok (.ireturn, 1) := by decide +kernel
theorem d_M_readType_207 : decode m_M_readType.2.1 207 = .ok (.iload_n 1, 1) := by decide +kernel
theorem d_M_readType_208 : decode m_M_readType.2.1 208 = .ok (.bipush 70, 2) := by decide +kernel
theorem d_M_readType_210 : decode m_M_readType.2.1 210 = .ok (.if_icmp .ne 13, 3) := by decide +kernel
theorem d_M_readType_213 : decode m_M_readType.2.1 213 = .ok (.aload_n 0, 1) := by decide +kernel
theorem d_M_readType_214 : decode m_M_readType.2.1 214 = .ok (.bipush 6, 2) := by decide +kernel
theorem d_M_readType_216 : decode m_M_readType.2.1 216 = .ok (.iconst (-1), 1) := by decide +kernel
theorem d_M_readType_217 : decode m_M_readType.2.1 217 = .ok (.iconst (-1), 1) := by decide +kernel
theorem d_M_readType_218 : decode m_M_readType.2.1 218 = .ok (.invokevirtual 217, 3) := by decide +kernel
theorem d_M_readType_221 : decode m_M_readType.2.1 221 = .ok (.iconst (-1), 1) := by decide +kernel
theorem d_M_readType_222 : decode m_M_readType.2.1 222 = .ok (.ireturn, 1) := by decide +kernel
theorem d_M_readType_223 : decode m_M_readType.2.1 223 = .ok (.aload_n 0, 1) := by decide +kernel
theorem d_M_readType_224 : decode m_M_readType.2.1 224 = .ok (.aload_n 0, 1) := by decide +kernel
theorem d_M_readType_225 : decode m_M_readType.2.1 225 = .ok (.getfield 171, 3) := by decide +kernel
theorem d_M_readType_228 : decode m_M_readType.2.1 228 = .ok (.ifCond .ne 21, 3) := by decide +kernel
theorem d_M_readType_231 : decode m_M_readType.2.1 231 = .ok (.iload_n 1, 1) := by decide +kernel
theorem d_M_readType_232 : decode m_M_readType.2.1 232 = .ok (.bipush 80, 2) := by decide +kernel
theorem d_M_readType_234 : decode m_M_readType.2.1 234 = .ok (.if_icmp .eq 19, 3) := by decide +kernel
theorem d_M_readType_237 : decode m_M_readType.2.1 237 = .ok (.iload_n 1, 1) := by decide +kernel
theorem d_M_readType_238 : decode m_M_readType.2.1 238 = .ok (.bipush 82, 2) := by decide +kernel
theorem d_M_readType_240 : decode m_M_readType.2.1 240 = .ok (.if_icmp .eq 13, 3) := by decide +kernel
theorem d_M_readType_243 : decode m_M_readType.2.1 243 = .ok (.iload_n 1, 1) := by decide +kernel
theorem d_M_readType_244 : decode m_M_readType.2.1 244 = .ok (.bipush 75, 2) := by decide +kernel
theorem d_M_readType_246 : decode m_M_readType.2.1 246 = .ok (.if_icmp .eq 7, 3) := by decide +kernel
theorem d_M_readType_249 : decode m_M_readType.2.1 249 = .ok (.iconst 1, 1) := by decide +kernel
theorem d_M_readType_250 : decode m_M_readType.2.1 250 = .ok (.goto 4, 3) := by decide +kernel
theorem d_M_readType_253 : decode m_M_readType.2.1 253 = .ok (.iconst 0, 1) := by decide +kernel
theorem d_M_readType_254 : decode m_M_readType.2.1 254 = .ok (.putfield 171, 3) := by decide +kernel
theorem d_M_readType_257 : decode m_M_readType.2.1 257 = .ok (.aload_n 0, 1) := by decide +kernel
theorem d_M_readType_258 : decode m_M_readType.2.1 258 = .ok (.bipush 7, 2) := by decide +kernel
theorem d_M_readType_260 : decode m_M_readType.2.1 260 = .ok (.iload_n 1, 1) := by decide +kernel
theorem d_M_readType_261 : decode m_M_readType.2.1 261 = .ok (.bipush 80, 2) := by decide +kernel
theorem d_M_readType_263 : decode m_M_readType.2.1 263 = .ok (.if_icmp .ne 7, 3) := by decide +kernel
theorem d_M_readType_266 : decode m_M_readType.2.1 266 = .ok (.iconst 4, 1) := by decide +kernel
theorem d_M_readType_267 : decode m_M_readType.2.1 267 = .ok (.goto 15, 3) := by decide +kernel
theorem d_M_readType_270 : decode m_M_readType.2.1 270 = .ok (.iload_n 1, 1) := by decide +kernel
theorem d_M_readType_271 : decode m_M_readType.2.1 271 = .ok (.bipush 82, 2) := by decide +kernel
theorem d_M_readType_273 : decode m_M_readType.2.1 273 = .ok (.if_icmp .ne 7, 3) := by decide +kernel
theorem d_M_readType_276 : decode m_M_readType.2.1 276 = .ok (.iconst 5, 1) := by decide +kernel
theorem d_M_readType_277 : decode m_M_readType.2.1 277 = .ok (.goto 5, 3) := by decide +kernel
theorem d_M_readType_280 : decode m_M_readType.2.1 280 = .ok (.bipush 6, 2) := by decide +kernel
theorem d_M_readType_282 : decode m_M_readType.2.1 282 = .ok (.iconst 0, 1) := by decide +kernel
theorem d_M_readType_283 : decode m_M_readType.2.1 283 = .ok (.invokevirtual 217, 3) := by decide +kernel
theorem d_M_readType_286 : decode m_M_readType.2.1 286 = .ok (.iconst (-1), 1) := by decide +kernel
theorem d_M_readType_287 : decode m_M_readType.2.1 287 = .ok (.ireturn, 1) := by decide +kernel
theorem d_M_take_0 : decode m_M_take.2.1 0 = .ok (.aload_n 0, 1) := by decide +kernel
theorem d_M_take_1 : decode m_M_take.2.1 1 = .ok (.getfield 120, 3) := by decide +kernel
theorem d_M_take_4 : decode m_M_take.2.1 4 = .ok (.iconst 1, 1) := by decide +kernel
theorem d_M_take_5 : decode m_M_take.2.1 5 = .ok (.isub, 1) := by decide +kernel
theorem d_M_take_6 : decode m_M_take.2.1 6 = .ok (.istore_n 2, 1) := by decide +kernel
theorem d_M_take_7 : decode m_M_take.2.1 7 = .ok (.aload_n 0, 1) := by decide +kernel
theorem d_M_take_8 : decode m_M_take.2.1 8 = .ok (.getfield 40, 3) := by decide +kernel
theorem d_M_take_11 : decode m_M_take.2.1 11 = .ok (.iload_n 2, 1) := by decide +kernel
theorem d_M_take_12 : decode m_M_take.2.1 12 = .ok (.iaload, 1) := by decide +kernel
theorem d_M_take_13 : decode m_M_take.2.1 13 = .ok (.bipush 7, 2) := by decide +kernel
theorem d_M_take_15 : decode m_M_take.2.1 15 = .ok (.if_icmp .ne 95, 3) := by decide +kernel
theorem d_M_take_18 : decode m_M_take.2.1 18 = .ok (.aload_n 0, 1) := by decide +kernel
theorem d_M_take_19 : decode m_M_take.2.1 19 = .ok (.dup, 1) := by decide +kernel
theorem d_M_take_20 : decode m_M_take.2.1 20 = .ok (.getfield 120, 3) := by decide +kernel
theorem d_M_take_23 : decode m_M_take.2.1 23 = .ok (.iconst 1, 1) := by decide +kernel
theorem d_M_take_24 : decode m_M_take.2.1 24 = .ok (.isub, 1) := by decide +kernel
theorem d_M_take_25 : decode m_M_take.2.1 25 = .ok (.putfield 120, 3) := by decide +kernel
theorem d_M_take_28 : decode m_M_take.2.1 28 = .ok (.aload_n 0, 1) := by decide +kernel
theorem d_M_take_29 : decode m_M_take.2.1 29 = .ok (.aload_n 0, 1) := by decide +kernel
theorem d_M_take_30 : decode m_M_take.2.1 30 = .ok (.getfield 171, 3) := by decide +kernel
theorem d_M_take_33 : decode m_M_take.2.1 33 = .ok (.ifCond .ne 25, 3) := by decide +kernel
theorem d_M_take_36 : decode m_M_take.2.1 36 = .ok (.aload_n 0, 1) := by decide +kernel
theorem d_M_take_37 : decode m_M_take.2.1 37 = .ok (.getfield 43, 3) := by decide +kernel
theorem d_M_take_40 : decode m_M_take.2.1 40 = .ok (.iload_n 2, 1) := by decide +kernel
theorem d_M_take_41 : decode m_M_take.2.1 41 = .ok (.iaload, 1) := by decide +kernel
theorem d_M_take_42 : decode m_M_take.2.1 42 = .ok (.bipush 6, 2) := by decide +kernel
theorem d_M_take_44 : decode m_M_take.2.1 44 = .ok (.if_icmp .ne 18, 3) := by decide +kernel
theorem d_M_take_47 : decode m_M_take.2.1 47 = .ok (.aload_n 0, 1) := by decide +kernel
theorem d_M_take_48 : decode m_M_take.2.1 48 = .ok (.getfield 7, 3) := by decide +kernel
theorem d_M_take_51 : decode m_M_take.2.1 51 = .ok (.iload_n 1, 1) := by decide +kernel
theorem d_M_take_52 : decode m_M_take.2.1 52 = .ok (.iaload, 1) := by decide +kernel
theorem d_M_take_53 : decode m_M_take.2.1 53 = .ok (.bipush 6, 2) := by decide +kernel
theorem d_M_take_55 : decode m_M_take.2.1 55 = .ok (.if_icmp .ne 7, 3) := by decide +kernel
theorem d_M_take_58 : decode m_M_take.2.1 58 = .ok (.iconst 1, 1) := by decide +kernel
theorem d_M_take_59 : decode m_M_take.2.1 59 = .ok (.goto 4, 3) := by decide +kernel
theorem d_M_take_62 : decode m_M_take.2.1 62 = .ok (.iconst 0, 1) := by decide +kernel
theorem d_M_take_63 : decode m_M_take.2.1 63 = .ok (.putfield 171, 3) := by decide +kernel
theorem d_M_take_66 : decode m_M_take.2.1 66 = .ok (.aload_n 0, 1) := by decide +kernel
theorem d_M_take_67 : decode m_M_take.2.1 67 = .ok (.aload_n 0, 1) := by decide +kernel
theorem d_M_take_68 : decode m_M_take.2.1 68 = .ok (.getfield 43, 3) := by decide +kernel
theorem d_M_take_71 : decode m_M_take.2.1 71 = .ok (.iload_n 2, 1) := by decide +kernel
theorem d_M_take_72 : decode m_M_take.2.1 72 = .ok (.iaload, 1) := by decide +kernel
theorem d_M_take_73 : decode m_M_take.2.1 73 = .ok (.aload_n 0, 1) := by decide +kernel
theorem d_M_take_74 : decode m_M_take.2.1 74 = .ok (.getfield 43, 3) := by decide +kernel
theorem d_M_take_77 : decode m_M_take.2.1 77 = .ok (.iload_n 2, 1) := by decide +kernel
theorem d_M_take_78 : decode m_M_take.2.1 78 = .ok (.iaload, 1) := by decide +kernel
theorem d_M_take_79 : decode m_M_take.2.1 79 = .ok (.bipush 7, 2) := by decide +kernel
theorem d_M_take_81 : decode m_M_take.2.1 81 = .ok (.if_icmp .ne 12, 3) := by decide +kernel
theorem d_M_take_84 : decode m_M_take.2.1 84 = .ok (.aload_n 0, 1) := by decide +kernel
theorem d_M_take_85 : decode m_M_take.2.1 85 = .ok (.getfield 46, 3) := by decide +kernel
theorem d_M_take_88 : decode m_M_take.2.1 88 = .ok (.iload_n 2, 1) := by decide +kernel
theorem d_M_take_89 : decode m_M_take.2.1 89 = .ok (.iaload, 1) := by decide +kernel
theorem d_M_take_90 : decode m_M_take.2.1 90 = .ok (.goto 4, 3) := by decide +kernel
theorem d_M_take_93 : decode m_M_take.2.1 93 = .ok (.iconst 0, 1) := by decide +kernel
theorem d_M_take_94 : decode m_M_take.2.1 94 = .ok (.iload_n 1, 1) := by decide +kernel
theorem d_M_take_95 : decode m_M_take.2.1 95 = .ok (.iconst (-1), 1) := by decide +kernel
theorem d_M_take_96 : decode m_M_take.2.1 96 = .ok (.iconst (-1), 1) := by decide +kernel
theorem d_M_take_97 : decode m_M_take.2.1 97 = .ok (.iconst (-1), 1) := by decide +kernel
theorem d_M_take_98 : decode m_M_take.2.1 98 = .ok (.iconst (-1), 1) := by decide +kernel
theorem d_M_take_99 : decode m_M_take.2.1 99 = .ok (.invokevirtual 190, 3) := by decide +kernel
theorem d_M_take_102 : decode m_M_take.2.1 102 = .ok (.istore_n 3, 1) := by decide +kernel
theorem d_M_take_103 : decode m_M_take.2.1 103 = .ok (.aload_n 0, 1) := by decide +kernel
theorem d_M_take_104 : decode m_M_take.2.1 104 = .ok (.iload_n 3, 1) := by decide +kernel
theorem d_M_take_105 : decode m_M_take.2.1 105 = .ok (.invokevirtual 211, 3) := by decide +kernel
theorem d_M_take_108 : decode m_M_take.2.1 108 = .ok (.iload_n 3, 1) := by decide +kernel
theorem d_M_take_109 : decode m_M_take.2.1 109 = .ok (.ireturn, 1) := by decide +kernel
theorem d_M_take_110 : decode m_M_take.2.1 110 = .ok (.aload_n 0, 1) := by decide +kernel
theorem d_M_take_111 : decode m_M_take.2.1 111 = .ok (.getfield 40, 3) := by decide +kernel
theorem d_M_take_114 : decode m_M_take.2.1 114 = .ok (.iload_n 2, 1) := by decide +kernel
theorem d_M_take_115 : decode m_M_take.2.1 115 = .ok (.iaload, 1) := by decide +kernel
theorem d_M_take_116 : decode m_M_take.2.1 116 = .ok (.iconst 4, 1) := by decide +kernel
theorem d_M_take_117 : decode m_M_take.2.1 117 = .ok (.if_icmp .ne 34, 3) := by decide +kernel
theorem d_M_take_120 : decode m_M_take.2.1 120 = .ok (.aload_n 0, 1) := by decide +kernel
theorem d_M_take_121 : decode m_M_take.2.1 121 = .ok (.getfield 49, 3) := by decide +kernel
theorem d_M_take_124 : decode m_M_take.2.1 124 = .ok (.iconst 3, 1) := by decide +kernel
theorem d_M_take_125 : decode m_M_take.2.1 125 = .ok (.iload_n 2, 1) := by decide +kernel
theorem d_M_take_126 : decode m_M_take.2.1 126 = .ok (.imul, 1) := by decide +kernel
theorem d_M_take_127 : decode m_M_take.2.1 127 = .ok (.aload_n 0, 1) := by decide +kernel
theorem d_M_take_128 : decode m_M_take.2.1 128 = .ok (.getfield 46, 3) := by decide +kernel
theorem d_M_take_131 : decode m_M_take.2.1 131 = .ok (.iload_n 2, 1) := by decide +kernel
theorem d_M_take_132 : decode m_M_take.2.1 132 = .ok (.iaload, 1) := by decide +kernel
theorem d_M_take_133 : decode m_M_take.2.1 133 = .ok (.iadd, 1) := by decide +kernel
theorem d_M_take_134 : decode m_M_take.2.1 134 = .ok (.iload_n 1, 1) := by decide +kernel
theorem d_M_take_135 : decode m_M_take.2.1 135 = .ok (.iastore, 1) := by decide +kernel
theorem d_M_take_136 : decode m_M_take.2.1 136 = .ok (.aload_n 0, 1) := by decide +kernel
theorem d_M_take_137 : decode m_M_take.2.1 137 = .ok (.getfield 46, 3) := by decide +kernel
theorem d_M_take_140 : decode m_M_take.2.1 140 = .ok (.iload_n 2, 1) := by decide +kernel
theorem d_M_take_141 : decode m_M_take.2.1 141 = .ok (.dup2, 1) := by decide +kernel
theorem d_M_take_142 : decode m_M_take.2.1 142 = .ok (.iaload, 1) := by decide +kernel
theorem d_M_take_143 : decode m_M_take.2.1 143 = .ok (.iconst 1, 1) := by decide +kernel
theorem d_M_take_144 : decode m_M_take.2.1 144 = .ok (.iadd, 1) := by decide +kernel
theorem d_M_take_145 : decode m_M_take.2.1 145 = .ok (.iastore, 1) := by decide +kernel
theorem d_M_take_146 : decode m_M_take.2.1 146 = .ok (.aload_n 0, 1) := by decide +kernel
theorem d_M_take_147 : decode m_M_take.2.1 147 = .ok (.invokevirtual 221, 3) := by decide +kernel
theorem d_M_take_150 : decode m_M_take.2.1 150 = .ok (.ireturn, 1) := by decide +kernel
theorem d_M_take_151 : decode m_M_take.2.1 151 = .ok (.aload_n 0, 1) := by decide +kernel
theorem d_M_take_152 : decode m_M_take.2.1 152 = .ok (.getfield 46, 3) := by decide +kernel
theorem d_M_take_155 : decode m_M_take.2.1 155 = .ok (.iload_n 2, 1) := by decide +kernel
theorem d_M_take_156 : decode m_M_take.2.1 156 = .ok (.iaload, 1) := by decide +kernel
theorem d_M_take_157 : decode m_M_take.2.1 157 = .ok (.ifCond .ge 13, 3) := by decide +kernel
theorem d_M_take_160 : decode m_M_take.2.1 160 = .ok (.aload_n 0, 1) := by decide +kernel
theorem d_M_take_161 : decode m_M_take.2.1 161 = .ok (.getfield 43, 3) := by decide +kernel
theorem d_M_take_164 : decode m_M_take.2.1 164 = .ok (.iload_n 2, 1) := by decide +kernel
theorem d_M_take_165 : decode m_M_take.2.1 165 = .ok (.iload_n 1, 1) := by decide +kernel
theorem d_M_take_166 : decode m_M_take.2.1 166 = .ok (.iastore, 1) := by decide +kernel
theorem d_M_take_167 : decode m_M_take.2.1 167 = .ok (.goto 53, 3) := by decide +kernel
theorem d_M_take_170 : decode m_M_take.2.1 170 = .ok (.aload_n 0, 1) := by decide +kernel
theorem d_M_take_171 : decode m_M_take.2.1 171 = .ok (.aload_n 0, 1) := by decide +kernel
theorem d_M_take_172 : decode m_M_take.2.1 172 = .ok (.getfield 171, 3) := by decide +kernel
theorem d_M_take_175 : decode m_M_take.2.1 175 = .ok (.ifCond .ne 21, 3) := by decide +kernel
theorem d_M_take_178 : decode m_M_take.2.1 178 = .ok (.aload_n 0, 1) := by decide +kernel
theorem d_M_take_179 : decode m_M_take.2.1 179 = .ok (.getfield 7, 3) := by decide +kernel
theorem d_M_take_182 : decode m_M_take.2.1 182 = .ok (.iload_n 1, 1) := by decide +kernel
theorem d_M_take_183 : decode m_M_take.2.1 183 = .ok (.iaload, 1) := by decide +kernel
theorem d_M_take_184 : decode m_M_take.2.1 184 = .ok (.ifCond .ne 16, 3) := by decide +kernel
theorem d_M_take_187 : decode m_M_take.2.1 187 = .ok (.aload_n 0, 1) := by decide +kernel
theorem d_M_take_188 : decode m_M_take.2.1 188 = .ok (.getfield 13, 3) := by decide +kernel
theorem d_M_take_191 : decode m_M_take.2.1 191 = .ok (.iload_n 1, 1) := by decide +kernel
theorem d_M_take_192 : decode m_M_take.2.1 192 = .ok (.iaload, 1) := by decide +kernel
theorem d_M_take_193 : decode m_M_take.2.1 193 = .ok (.ifCond .ne 7, 3) := by decide +kernel
theorem d_M_take_196 : decode m_M_take.2.1 196 = .ok (.iconst 1, 1) := by decide +kernel
theorem d_M_take_197 : decode m_M_take.2.1 197 = .ok (.goto 4, 3) := by decide +kernel
theorem d_M_take_200 : decode m_M_take.2.1 200 = .ok (.iconst 0, 1) := by decide +kernel
theorem d_M_take_201 : decode m_M_take.2.1 201 = .ok (.putfield 171, 3) := by decide +kernel
theorem d_M_take_204 : decode m_M_take.2.1 204 = .ok (.aload_n 0, 1) := by decide +kernel
theorem d_M_take_205 : decode m_M_take.2.1 205 = .ok (.getfield 49, 3) := by decide +kernel
theorem d_M_take_208 : decode m_M_take.2.1 208 = .ok (.iconst 3, 1) := by decide +kernel
theorem d_M_take_209 : decode m_M_take.2.1 209 = .ok (.iload_n 2, 1) := by decide +kernel
theorem d_M_take_210 : decode m_M_take.2.1 210 = .ok (.imul, 1) := by decide +kernel
theorem d_M_take_211 : decode m_M_take.2.1 211 = .ok (.aload_n 0, 1) := by decide +kernel
theorem d_M_take_212 : decode m_M_take.2.1 212 = .ok (.getfield 46, 3) := by decide +kernel
theorem d_M_take_215 : decode m_M_take.2.1 215 = .ok (.iload_n 2, 1) := by decide +kernel
theorem d_M_take_216 : decode m_M_take.2.1 216 = .ok (.iaload, 1) := by decide +kernel
theorem d_M_take_217 : decode m_M_take.2.1 217 = .ok (.iadd, 1) := by decide +kernel
theorem d_M_take_218 : decode m_M_take.2.1 218 = .ok (.iload_n 1, 1) := by decide +kernel
theorem d_M_take_219 : decode m_M_take.2.1 219 = .ok (.iastore, 1) := by decide +kernel
theorem d_M_take_220 : decode m_M_take.2.1 220 = .ok (.aload_n 0, 1) := by decide +kernel
theorem d_M_take_221 : decode m_M_take.2.1 221 = .ok (.getfield 46, 3) := by decide +kernel
theorem d_M_take_224 : decode m_M_take.2.1 224 = .ok (.iload_n 2, 1) := by decide +kernel
theorem d_M_take_225 : decode m_M_take.2.1 225 = .ok (.dup2, 1) := by decide +kernel
theorem d_M_take_226 : decode m_M_take.2.1 226 = .ok (.iaload, 1) := by decide +kernel
theorem d_M_take_227 : decode m_M_take.2.1 227 = .ok (.iconst 1, 1) := by decide +kernel
theorem d_M_take_228 : decode m_M_take.2.1 228 = .ok (.iadd, 1) := by decide +kernel
theorem d_M_take_229 : decode m_M_take.2.1 229 = .ok (.iastore, 1) := by decide +kernel
theorem d_M_take_230 : decode m_M_take.2.1 230 = .ok (.aload_n 0, 1) := by decide +kernel
theorem d_M_take_231 : decode m_M_take.2.1 231 = .ok (.getfield 46, 3) := by decide +kernel
theorem d_M_take_234 : decode m_M_take.2.1 234 = .ok (.iload_n 2, 1) := by decide +kernel
theorem d_M_take_235 : decode m_M_take.2.1 235 = .ok (.iaload, 1) := by decide +kernel
theorem d_M_take_236 : decode m_M_take.2.1 236 = .ok (.ifCond .ne 16, 3) := by decide +kernel
theorem d_M_take_239 : decode m_M_take.2.1 239 = .ok (.aload_n 0, 1) := by decide +kernel
theorem d_M_take_240 : decode m_M_take.2.1 240 = .ok (.invokevirtual 174, 3) := by decide +kernel
theorem d_M_take_243 : decode m_M_take.2.1 243 = .ok (.bipush 118, 2) := by decide +kernel
theorem d_M_take_245 : decode m_M_take.2.1 245 = .ok (.if_icmp .ne 7, 3) := by decide +kernel
theorem d_M_take_248 : decode m_M_take.2.1 248 = .ok (.iconst 1, 1) := by decide +kernel
theorem d_M_take_249 : decode m_M_take.2.1 249 = .ok (.goto 4, 3) := by decide +kernel
theorem d_M_take_252 : decode m_M_take.2.1 252 = .ok (.iconst 0, 1) := by decide +kernel
theorem d_M_take_253 : decode m_M_take.2.1 253 = .ok (.istore_n 3, 1) := by decide +kernel
theorem d_M_take_254 : decode m_M_take.2.1 254 = .ok (.aload_n 0, 1) := by decide +kernel
theorem d_M_take_255 : decode m_M_take.2.1 255 = .ok (.dup, 1) := by decide +kernel
theorem d_M_take_256 : decode m_M_take.2.1 256 = .ok (.getfield 168, 3) := by decide +kernel
theorem d_M_take_259 : decode m_M_take.2.1 259 = .ok (.iload_n 3, 1) := by decide +kernel
theorem d_M_take_260 : decode m_M_take.2.1 260 = .ok (.ifCond .eq 7, 3) := by decide +kernel
theorem d_M_take_263 : decode m_M_take.2.1 263 = .ok (.iconst 1, 1) := by decide +kernel
theorem d_M_take_264 : decode m_M_take.2.1 264 = .ok (.goto 4, 3) := by decide +kernel
theorem d_M_take_267 : decode m_M_take.2.1 267 = .ok (.iconst 0, 1) := by decide +kernel
theorem d_M_take_268 : decode m_M_take.2.1 268 = .ok (.iadd, 1) := by decide +kernel
theorem d_M_take_269 : decode m_M_take.2.1 269 = .ok (.putfield 168, 3) := by decide +kernel
theorem d_M_take_272 : decode m_M_take.2.1 272 = .ok (.aload_n 0, 1) := by decide +kernel
theorem d_M_take_273 : decode m_M_take.2.1 273 = .ok (.getfield 171, 3) := by decide +kernel
theorem d_M_take_276 : decode m_M_take.2.1 276 = .ok (.ifCond .ne 98, 3) := by decide +kernel
theorem d_M_take_279 : decode m_M_take.2.1 279 = .ok (.iload_n 3, 1) := by decide +kernel
theorem d_M_take_280 : decode m_M_take.2.1 280 = .ok (.ifCond .ne 12, 3) := by decide +kernel
theorem d_M_take_283 : decode m_M_take.2.1 283 = .ok (.aload_n 0, 1) := by decide +kernel
theorem d_M_take_284 : decode m_M_take.2.1 284 = .ok (.getfield 46, 3) := by decide +kernel
theorem d_M_take_287 : decode m_M_take.2.1 287 = .ok (.iload_n 2, 1) := by decide +kernel
theorem d_M_take_288 : decode m_M_take.2.1 288 = .ok (.iaload, 1) := by decide +kernel
theorem d_M_take_289 : decode m_M_take.2.1 289 = .ok (.ifCond .le 85, 3) := by decide +kernel
theorem d_M_take_292 : decode m_M_take.2.1 292 = .ok (.aload_n 0, 1) := by decide +kernel
theorem d_M_take_293 : decode m_M_take.2.1 293 = .ok (.invokevirtual 174, 3) := by decide +kernel
theorem d_M_take_296 : decode m_M_take.2.1 296 = .ok (.bipush 69, 2) := by decide +kernel
theorem d_M_take_298 : decode m_M_take.2.1 298 = .ok (.if_icmp .ne 76, 3) := by decide +kernel
theorem d_M_take_301 : decode m_M_take.2.1 301 = .ok (.aload_n 0, 1) := by decide +kernel
theorem d_M_take_302 : decode m_M_take.2.1 302 = .ok (.dup, 1) := by decide +kernel
theorem d_M_take_303 : decode m_M_take.2.1 303 = .ok (.getfield 168, 3) := by decide +kernel
theorem d_M_take_306 : decode m_M_take.2.1 306 = .ok (.iconst 1, 1) := by decide +kernel
theorem d_M_take_307 : decode m_M_take.2.1 307 = .ok (.iadd, 1) := by decide +kernel
theorem d_M_take_308 : decode m_M_take.2.1 308 = .ok (.putfield 168, 3) := by decide +kernel
theorem d_M_take_311 : decode m_M_take.2.1 311 = .ok (.aload_n 0, 1) := by decide +kernel
theorem d_M_take_312 : decode m_M_take.2.1 312 = .ok (.dup, 1) := by decide +kernel
theorem d_M_take_313 : decode m_M_take.2.1 313 = .ok (.getfield 120, 3) := by decide +kernel
theorem d_M_take_316 : decode m_M_take.2.1 316 = .ok (.iconst 1, 1) := by decide +kernel
theorem d_M_take_317 : decode m_M_take.2.1 317 = .ok (.isub, 1) := by decide +kernel
theorem d_M_take_318 : decode m_M_take.2.1 318 = .ok (.putfield 120, 3) := by decide +kernel
theorem d_M_take_321 : decode m_M_take.2.1 321 = .ok (.aload_n 0, 1) := by decide +kernel
theorem d_M_take_322 : decode m_M_take.2.1 322 = .ok (.bipush 8, 2) := by decide +kernel
theorem d_M_take_324 : decode m_M_take.2.1 324 = .ok (.iconst 0, 1) := by decide +kernel
theorem d_M_take_325 : decode m_M_take.2.1 325 = .ok (.aload_n 0, 1) := by decide +kernel
theorem d_M_take_326 : decode m_M_take.2.1 326 = .ok (.getfield 43, 3) := by decide +kernel
theorem d_M_take_329 : decode m_M_take.2.1 329 = .ok (.iload_n 2, 1) := by decide +kernel
theorem d_M_take_330 : decode m_M_take.2.1 330 = .ok (.iaload, 1) := by decide +kernel
theorem d_M_take_331 : decode m_M_take.2.1 331 = .ok (.iconst (-1), 1) := by decide +kernel
theorem d_M_take_332 : decode m_M_take.2.1 332 = .ok (.aload_n 0, 1) := by decide +kernel
theorem d_M_take_333 : decode m_M_take.2.1 333 = .ok (.getfield 49, 3) := by decide +kernel
theorem d_M_take_336 : decode m_M_take.2.1 336 = .ok (.iconst 3, 1) := by decide +kernel
theorem d_M_take_337 : decode m_M_take.2.1 337 = .ok (.iload_n 2, 1) := by decide +kernel
theorem d_M_take_338 : decode m_M_take.2.1 338 = .ok (.imul, 1) := by decide +kernel
theorem d_M_take_339 : decode m_M_take.2.1 339 = .ok (.iaload, 1) := by decide +kernel
theorem d_M_take_340 : decode m_M_take.2.1 340 = .ok (.aload_n 0, 1) := by decide +kernel
theorem d_M_take_341 : decode m_M_take.2.1 341 = .ok (.getfield 49, 3) := by decide +kernel
theorem d_M_take_344 : decode m_M_take.2.1 344 = .ok (.iconst 3, 1) := by decide +kernel
theorem d_M_take_345 : decode m_M_take.2.1 345 = .ok (.iload_n 2, 1) := by decide +kernel
theorem d_M_take_346 : decode m_M_take.2.1 346 = .ok (.imul, 1) := by decide +kernel
theorem d_M_take_347 : decode m_M_take.2.1 347 = .ok (.iconst 1, 1) := by decide +kernel
theorem d_M_take_348 : decode m_M_take.2.1 348 = .ok (.iadd, 1) := by decide +kernel
theorem d_M_take_349 : decode m_M_take.2.1 349 = .ok (.iaload, 1) := by decide +kernel
theorem d_M_take_350 : decode m_M_take.2.1 350 = .ok (.aload_n 0, 1) := by decide +kernel
theorem d_M_take_351 : decode m_M_take.2.1 351 = .ok (.getfield 49, 3) := by decide +kernel
theorem d_M_take_354 : decode m_M_take.2.1 354 = .ok (.iconst 3, 1) := by decide +kernel
theorem d_M_take_355 : decode m_M_take.2.1 355 = .ok (.iload_n 2, 1) := by decide +kernel
theorem d_M_take_356 : decode m_M_take.2.1 356 = .ok (.imul, 1) := by decide +kernel
theorem d_M_take_357 : decode m_M_take.2.1 357 = .ok (.iconst 2, 1) := by decide +kernel
theorem d_M_take_358 : decode m_M_take.2.1 358 = .ok (.iadd, 1) := by decide +kernel
theorem d_M_take_359 : decode m_M_take.2.1 359 = .ok (.iaload, 1) := by decide +kernel
theorem d_M_take_360 : decode m_M_take.2.1 360 = .ok (.invokevirtual 190, 3) := by decide +kernel
theorem d_M_take_363 : decode m_M_take.2.1 363 = .ok (.istore 4, 2) := by decide +kernel
theorem d_M_take_365 : decode m_M_take.2.1 365 = .ok (.aload_n 0, 1) := by decide +kernel
theorem d_M_take_366 : decode m_M_take.2.1 366 = .ok (.iload 4, 2) := by decide +kernel
theorem d_M_take_368 : decode m_M_take.2.1 368 = .ok (.invokevirtual 211, 3) := by decide +kernel
theorem d_M_take_371 : decode m_M_take.2.1 371 = .ok (.iload 4, 2) := by decide +kernel
theorem d_M_take_373 : decode m_M_take.2.1 373 = .ok (.ireturn, 1) := by decide +kernel
theorem d_M_take_374 : decode m_M_take.2.1 374 = .ok (.aload_n 0, 1) := by decide +kernel
theorem d_M_take_375 : decode m_M_take.2.1 375 = .ok (.aload_n 0, 1) := by decide +kernel
theorem d_M_take_376 : decode m_M_take.2.1 376 = .ok (.getfield 171, 3) := by decide +kernel
theorem d_M_take_379 : decode m_M_take.2.1 379 = .ok (.ifCond .ne 17, 3) := by decide +kernel
theorem d_M_take_382 : decode m_M_take.2.1 382 = .ok (.iload_n 3, 1) := by decide +kernel
theorem d_M_take_383 : decode m_M_take.2.1 383 = .ok (.ifCond .ne 13, 3) := by decide +kernel
theorem d_M_take_386 : decode m_M_take.2.1 386 = .ok (.aload_n 0, 1) := by decide +kernel
theorem d_M_take_387 : decode m_M_take.2.1 387 = .ok (.getfield 46, 3) := by decide +kernel
theorem d_M_take_390 : decode m_M_take.2.1 390 = .ok (.iload_n 2, 1) := by decide +kernel
theorem d_M_take_391 : decode m_M_take.2.1 391 = .ok (.iaload, 1) := by decide +kernel
theorem d_M_take_392 : decode m_M_take.2.1 392 = .ok (.iconst 3, 1) := by decide +kernel
theorem d_M_take_393 : decode m_M_take.2.1 393 = .ok (.if_icmp .ne 7, 3) := by decide +kernel
theorem d_M_take_396 : decode m_M_take.2.1 396 = .ok (.iconst 1, 1) := by decide +kernel
theorem d_M_take_397 : decode m_M_take.2.1 397 = .ok (.goto 4, 3) := by decide +kernel
theorem d_M_take_400 : decode m_M_take.2.1 400 = .ok (.iconst 0, 1) := by decide +kernel
theorem d_M_take_401 : decode m_M_take.2.1 401 = .ok (.putfield 171, 3) := by decide +kernel
theorem d_M_take_404 : decode m_M_take.2.1 404 = .ok (.iconst (-1), 1) := by decide +kernel
theorem d_M_take_405 : decode m_M_take.2.1 405 = .ok (.ireturn, 1) := by decide +kernel
theorem d_M_wholeType_0 : decode m_M_wholeType.2.1 0 = .ok (.aload_n 0, 1) := by decide +kernel
theorem d_M_wholeType_1 : decode m_M_wholeType.2.1 1 = .ok (.aload_n 0, 1) := by decide +kernel
theorem d_M_wholeType_2 : decode m_M_wholeType.2.1 2 = .ok (.invokevirtual 233, 3) := by decide +kernel
theorem d_M_wholeType_5 : decode m_M_wholeType.2.1 5 = .ok (.invokevirtual 236, 3) := by decide +kernel
theorem d_M_wholeType_8 : decode m_M_wholeType.2.1 8 = .ok (.istore_n 2, 1) := by decide +kernel
theorem d_M_wholeType_9 : decode m_M_wholeType.2.1 9 = .ok (.aload_n 0, 1) := by decide +kernel
theorem d_M_wholeType_10 : decode m_M_wholeType.2.1 10 = .ok (.getfield 171, 3) := by decide +kernel
theorem d_M_wholeType_13 : decode m_M_wholeType.2.1 13 = .ok (.ifCond .ne 39, 3) := by decide +kernel
theorem d_M_wholeType_16 : decode m_M_wholeType.2.1 16 = .ok (.iload_n 2, 1) := by decide +kernel
theorem d_M_wholeType_17 : decode m_M_wholeType.2.1 17 = .ok (.ifCond .lt 11, 3) := by decide +kernel
theorem d_M_wholeType_20 : decode m_M_wholeType.2.1 20 = .ok (.aload_n 0, 1) := by decide +kernel
theorem d_M_wholeType_21 : decode m_M_wholeType.2.1 21 = .ok (.getfield 120, 3) := by decide +kernel
theorem d_M_wholeType_24 : decode m_M_wholeType.2.1 24 = .ok (.iload_n 1, 1) := by decide +kernel
theorem d_M_wholeType_25 : decode m_M_wholeType.2.1 25 = .ok (.if_icmp .le 27, 3) := by decide +kernel
theorem d_M_wholeType_28 : decode m_M_wholeType.2.1 28 = .ok (.aload_n 0, 1) := by decide +kernel
theorem d_M_wholeType_29 : decode m_M_wholeType.2.1 29 = .ok (.iload_n 2, 1) := by decide +kernel
theorem d_M_wholeType_30 : decode m_M_wholeType.2.1 30 = .ok (.ifCond .ge 10, 3) := by decide +kernel
theorem d_M_wholeType_33 : decode m_M_wholeType.2.1 33 = .ok (.aload_n 0, 1) := by decide +kernel
theorem d_M_wholeType_34 : decode m_M_wholeType.2.1 34 = .ok (.invokevirtual 233, 3) := by decide +kernel
theorem d_M_wholeType_37 : decode m_M_wholeType.2.1 37 = .ok (.goto 8, 3) := by decide +kernel
theorem d_M_wholeType_40 : decode m_M_wholeType.2.1 40 = .ok (.aload_n 0, 1) := by decide +kernel
theorem d_M_wholeType_41 : decode m_M_wholeType.2.1 41 = .ok (.iload_n 2, 1) := by decide +kernel
theorem d_M_wholeType_42 : decode m_M_wholeType.2.1 42 = .ok (.invokevirtual 239, 3) := by decide +kernel
theorem d_M_wholeType_45 : decode m_M_wholeType.2.1 45 = .ok (.invokevirtual 236, 3) := by decide +kernel
theorem d_M_wholeType_48 : decode m_M_wholeType.2.1 48 = .ok (.istore_n 2, 1) := by decide +kernel
theorem d_M_wholeType_49 : decode m_M_wholeType.2.1 49 = .ok (.goto (-40), 3) := by decide +kernel
theorem d_M_wholeType_52 : decode m_M_wholeType.2.1 52 = .ok (.iload_n 2, 1) := by decide +kernel
theorem d_M_wholeType_53 : decode m_M_wholeType.2.1 53 = .ok (.ireturn, 1) := by decide +kernel
theorem d_M_table_0 : decode m_M_table.2.1 0 = .ok (.aload_n 0, 1) := by decide +kernel
theorem d_M_table_1 : decode m_M_table.2.1 1 = .ok (.iconst 0, 1) := by decide +kernel
theorem d_M_table_2 : decode m_M_table.2.1 2 = .ok (.putfield 52, 3) := by decide +kernel
theorem d_M_table_5 : decode m_M_table.2.1 5 = .ok (.iload_n 1, 1) := by decide +kernel
theorem d_M_table_6 : decode m_M_table.2.1 6 = .ok (.ifCond .lt 11, 3) := by decide +kernel
theorem d_M_table_9 : decode m_M_table.2.1 9 = .ok (.iload_n 1, 1) := by decide +kernel
theorem d_M_table_10 : decode m_M_table.2.1 10 = .ok (.aload_n 0, 1) := by decide +kernel
theorem d_M_table_11 : decode m_M_table.2.1 11 = .ok (.getfield 163, 3) := by decide +kernel
theorem d_M_table_14 : decode m_M_table.2.1 14 = .ok (.if_icmp .lt 7, 3) := by decide +kernel
theorem d_M_table_17 : decode m_M_table.2.1 17 = .ok (.iconst (-1), 1) := by decide +kernel
theorem d_M_table_18 : decode m_M_table.2.1 18 = .ok (.goto 9, 3) := by decide +kernel
theorem d_M_table_21 : decode m_M_table.2.1 21 = .ok (.aload_n 0, 1) := by decide +kernel
theorem d_M_table_22 : decode m_M_table.2.1 22 = .ok (.getfield 34, 3) := by decide +kernel
theorem d_M_table_25 : decode m_M_table.2.1 25 = .ok (.iload_n 1, 1) := by decide +kernel
theorem d_M_table_26 : decode m_M_table.2.1 26 = .ok (.iaload, 1) := by decide +kernel
theorem d_M_table_27 : decode m_M_table.2.1 27 = .ok (.ireturn, 1) := by decide +kernel
theorem d_M_look_0 : decode m_M_look.2.1 0 = .ok (.aload_n 0, 1) := by decide +kernel
theorem d_M_look_1 : decode m_M_look.2.1 1 = .ok (.iconst 0, 1) := by decide +kernel
theorem d_M_look_2 : decode m_M_look.2.1 2 = .ok (.putfield 52, 3) := by decide +kernel
theorem d_M_look_5 : decode m_M_look.2.1 5 = .ok (.iload_n 1, 1) := by decide +kernel
theorem d_M_look_6 : decode m_M_look.2.1 6 = .ok (.ifCond .ne 10, 3) := by decide +kernel
theorem d_M_look_9 : decode m_M_look.2.1 9 = .ok (.aload_n 0, 1) := by decide +kernel
theorem d_M_look_10 : decode m_M_look.2.1 10 = .ok (.getfield 56, 3) := by decide +kernel
theorem d_M_look_13 : decode m_M_look.2.1 13 = .ok (.goto 28, 3) := by decide +kernel
theorem d_M_look_16 : decode m_M_look.2.1 16 = .ok (.iload_n 1, 1) := by decide +kernel
theorem d_M_look_17 : decode m_M_look.2.1 17 = .ok (.iconst 1, 1) := by decide +kernel
theorem d_M_look_18 : decode m_M_look.2.1 18 = .ok (.if_icmp .ne 10, 3) := by decide +kernel
theorem d_M_look_21 : decode m_M_look.2.1 21 = .ok (.aload_n 0, 1) := by decide +kernel
theorem d_M_look_22 : decode m_M_look.2.1 22 = .ok (.getfield 157, 3) := by decide +kernel
theorem d_M_look_25 : decode m_M_look.2.1 25 = .ok (.goto 16, 3) := by decide +kernel
theorem d_M_look_28 : decode m_M_look.2.1 28 = .ok (.iload_n 1, 1) := by decide +kernel
theorem d_M_look_29 : decode m_M_look.2.1 29 = .ok (.iconst 2, 1) := by decide +kernel
theorem d_M_look_30 : decode m_M_look.2.1 30 = .ok (.if_icmp .ne 10, 3) := by decide +kernel
theorem d_M_look_33 : decode m_M_look.2.1 33 = .ok (.aload_n 0, 1) := by decide +kernel
theorem d_M_look_34 : decode m_M_look.2.1 34 = .ok (.getfield 163, 3) := by decide +kernel
theorem d_M_look_37 : decode m_M_look.2.1 37 = .ok (.goto 4, 3) := by decide +kernel
theorem d_M_look_40 : decode m_M_look.2.1 40 = .ok (.iconst (-1), 1) := by decide +kernel
theorem d_M_look_41 : decode m_M_look.2.1 41 = .ok (.ireturn, 1) := by decide +kernel
