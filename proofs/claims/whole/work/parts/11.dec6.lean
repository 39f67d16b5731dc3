theorem d_MD_result_61 : decode M_MD_result.2.1 61 = .ok (.lrem, 1) := by decide +kernel
theorem d_MD_result_62 : decode M_MD_result.2.1 62 = .ok (.lload 9, 2) := by decide +kernel
theorem d_MD_result_64 : decode M_MD_result.2.1 64 = .ok (.lmul, 1) := by decide +kernel
theorem d_MD_result_65 : decode M_MD_result.2.1 65 = .ok (.lstore 14, 2) := by decide +kernel
theorem d_MD_result_67 : decode M_MD_result.2.1 67 = .ok (.lload 7, 2) := by decide +kernel
theorem d_MD_result_69 : decode M_MD_result.2.1 69 = .ok (.lload 9, 2) := by decide +kernel
theorem d_MD_result_71 : decode M_MD_result.2.1 71 = .ok (.lmul, 1) := by decide +kernel
theorem d_MD_result_72 : decode M_MD_result.2.1 72 = .ok (.lload 14, 2) := by decide +kernel
theorem d_MD_result_74 : decode M_MD_result.2.1 74 = .ok (.lload_n 3, 1) := by decide +kernel
theorem d_MD_result_75 : decode M_MD_result.2.1 75 = .ok (.ldiv, 1) := by decide +kernel
theorem d_MD_result_76 : decode M_MD_result.2.1 76 = .ok (.ladd, 1) := by decide +kernel
theorem d_MD_result_77 : decode M_MD_result.2.1 77 = .ok (.lstore 16, 2) := by decide +kernel
theorem d_MD_result_79 : decode M_MD_result.2.1 79 = .ok (.lload 14, 2) := by decide +kernel
theorem d_MD_result_81 : decode M_MD_result.2.1 81 = .ok (.lload_n 3, 1) := by decide +kernel
theorem d_MD_result_82 : decode M_MD_result.2.1 82 = .ok (.lrem, 1) := by decide +kernel
theorem d_MD_result_83 : decode M_MD_result.2.1 83 = .ok (.lstore 18, 2) := by decide +kernel
theorem d_MD_result_85 : decode M_MD_result.2.1 85 = .ok (.lload 16, 2) := by decide +kernel
theorem d_MD_result_87 : decode M_MD_result.2.1 87 = .ok (.lload 16, 2) := by decide +kernel
theorem d_MD_result_89 : decode M_MD_result.2.1 89 = .ok (.lload 18, 2) := by decide +kernel
theorem d_MD_result_91 : decode M_MD_result.2.1 91 = .ok (.lload_n 3, 1) := by decide +kernel
theorem d_MD_result_92 : decode M_MD_result.2.1 92 = .ok (.iload 6, 2) := by decide +kernel
theorem d_MD_result_94 : decode M_MD_result.2.1 94 = .ok (.invokestatic 194, 3) := by decide +kernel
theorem d_MD_result_97 : decode M_MD_result.2.1 97 = .ok (.i2l, 1) := by decide +kernel
theorem d_MD_result_98 : decode M_MD_result.2.1 98 = .ok (.ladd, 1) := by decide +kernel
theorem d_MD_result_99 : decode M_MD_result.2.1 99 = .ok (.lstore 16, 2) := by decide +kernel
theorem d_MD_result_101 : decode M_MD_result.2.1 101 = .ok (.iload 6, 2) := by decide +kernel
theorem d_MD_result_103 : decode M_MD_result.2.1 103 = .ok (.bipush 7, 2) := by decide +kernel
theorem d_MD_result_105 : decode M_MD_result.2.1 105 = .ok (.if_icmp .ne 10, 3) := by decide +kernel
theorem d_MD_result_108 : decode M_MD_result.2.1 108 = .ok (.lload 18, 2) := by decide +kernel
theorem d_MD_result_110 : decode M_MD_result.2.1 110 = .ok (.lconst 0, 1) := by decide +kernel
theorem d_MD_result_111 : decode M_MD_result.2.1 111 = .ok (.lcmp, 1) := by decide +kernel
theorem d_MD_result_112 : decode M_MD_result.2.1 112 = .ok (.ifCond .ne 20, 3) := by decide +kernel
theorem d_MD_result_115 : decode M_MD_result.2.1 115 = .ok (.lload 16, 2) := by decide +kernel
theorem d_MD_result_117 : decode M_MD_result.2.1 117 = .ok (.lload 11, 2) := by decide +kernel
theorem d_MD_result_119 : decode M_MD_result.2.1 119 = .ok (.lcmp, 1) := by decide +kernel
theorem d_MD_result_120 : decode M_MD_result.2.1 120 = .ok (.ifCond .ge 12, 3) := by decide +kernel
theorem d_MD_result_123 : decode M_MD_result.2.1 123 = .ok (.lload 16, 2) := by decide +kernel
theorem d_MD_result_125 : decode M_MD_result.2.1 125 = .ok (.lload 11, 2) := by decide +kernel
theorem d_MD_result_127 : decode M_MD_result.2.1 127 = .ok (.lneg, 1) := by decide +kernel
theorem d_MD_result_128 : decode M_MD_result.2.1 128 = .ok (.lcmp, 1) := by decide +kernel
theorem d_MD_result_129 : decode M_MD_result.2.1 129 = .ok (.ifCond .gt 7, 3) := by decide +kernel
theorem d_MD_result_132 : decode M_MD_result.2.1 132 = .ok (.iconst 1, 1) := by decide +kernel
theorem d_MD_result_133 : decode M_MD_result.2.1 133 = .ok (.goto 4, 3) := by decide +kernel
theorem d_MD_result_136 : decode M_MD_result.2.1 136 = .ok (.iconst 0, 1) := by decide +kernel
theorem d_MD_result_137 : decode M_MD_result.2.1 137 = .ok (.istore 13, 2) := by decide +kernel
theorem d_MD_result_139 : decode M_MD_result.2.1 139 = .ok (.iload 13, 2) := by decide +kernel
theorem d_MD_result_141 : decode M_MD_result.2.1 141 = .ok (.ifCond .ne 34, 3) := by decide +kernel
theorem d_MD_result_144 : decode M_MD_result.2.1 144 = .ok (.aload_n 0, 1) := by decide +kernel
theorem d_MD_result_145 : decode M_MD_result.2.1 145 = .ok (.iload 5, 2) := by decide +kernel
theorem d_MD_result_147 : decode M_MD_result.2.1 147 = .ok (.lload 16, 2) := by decide +kernel
theorem d_MD_result_149 : decode M_MD_result.2.1 149 = .ok (.lconst 0, 1) := by decide +kernel
theorem d_MD_result_150 : decode M_MD_result.2.1 150 = .ok (.lcmp, 1) := by decide +kernel
theorem d_MD_result_151 : decode M_MD_result.2.1 151 = .ok (.ifCond .ge 19, 3) := by decide +kernel
theorem d_MD_result_154 : decode M_MD_result.2.1 154 = .ok (.aload_n 0, 1) := by decide +kernel
theorem d_MD_result_155 : decode M_MD_result.2.1 155 = .ok (.getfield 31, 3) := by decide +kernel
theorem d_MD_result_158 : decode M_MD_result.2.1 158 = .ok (.iload 5, 2) := by decide +kernel
theorem d_MD_result_160 : decode M_MD_result.2.1 160 = .ok (.baload, 1) := by decide +kernel
theorem d_MD_result_161 : decode M_MD_result.2.1 161 = .ok (.ifCond .ne 9, 3) := by decide +kernel
theorem d_MD_result_164 : decode M_MD_result.2.1 164 = .ok (.lload 16, 2) := by decide +kernel
theorem d_MD_result_166 : decode M_MD_result.2.1 166 = .ok (.lneg, 1) := by decide +kernel
theorem d_MD_result_167 : decode M_MD_result.2.1 167 = .ok (.goto 5, 3) := by decide +kernel
theorem d_MD_result_170 : decode M_MD_result.2.1 170 = .ok (.lload 16, 2) := by decide +kernel
theorem d_MD_result_172 : decode M_MD_result.2.1 172 = .ok (.invokevirtual 198, 3) := by decide +kernel
theorem d_MD_result_175 : decode M_MD_result.2.1 175 = .ok (.aload_n 0, 1) := by decide +kernel
theorem d_MD_result_176 : decode M_MD_result.2.1 176 = .ok (.iload 13, 2) := by decide +kernel
theorem d_MD_result_178 : decode M_MD_result.2.1 178 = .ok (.ifCond .eq 12, 3) := by decide +kernel
theorem d_MD_result_181 : decode M_MD_result.2.1 181 = .ok (.aload_n 0, 1) := by decide +kernel
theorem d_MD_result_182 : decode M_MD_result.2.1 182 = .ok (.getfield 201, 3) := by decide +kernel
theorem d_MD_result_185 : decode M_MD_result.2.1 185 = .ok (.iconst 1, 1) := by decide +kernel
theorem d_MD_result_186 : decode M_MD_result.2.1 186 = .ok (.iadd, 1) := by decide +kernel
theorem d_MD_result_187 : decode M_MD_result.2.1 187 = .ok (.goto 7, 3) := by decide +kernel
theorem d_MD_result_190 : decode M_MD_result.2.1 190 = .ok (.aload_n 0, 1) := by decide +kernel
theorem d_MD_result_191 : decode M_MD_result.2.1 191 = .ok (.getfield 201, 3) := by decide +kernel
theorem d_MD_result_194 : decode M_MD_result.2.1 194 = .ok (.putfield 201, 3) := by decide +kernel
theorem d_MD_result_197 : decode M_MD_result.2.1 197 = .ok (.iload 13, 2) := by decide +kernel
theorem d_MD_result_199 : decode M_MD_result.2.1 199 = .ok (.ireturn, 1) := by decide +kernel
theorem d_MD_step_0 : decode M_MD_step.2.1 0 = .ok (.lload_n 2, 1) := by decide +kernel
theorem d_MD_step_1 : decode M_MD_step.2.1 1 = .ok (.lconst 0, 1) := by decide +kernel
theorem d_MD_step_2 : decode M_MD_step.2.1 2 = .ok (.lcmp, 1) := by decide +kernel
theorem d_MD_step_3 : decode M_MD_step.2.1 3 = .ok (.ifCond .ge 11, 3) := by decide +kernel
theorem d_MD_step_6 : decode M_MD_step.2.1 6 = .ok (.ldc2_w 188, 3) := by decide +kernel
theorem d_MD_step_9 : decode M_MD_step.2.1 9 = .ok (.lload_n 2, 1) := by decide +kernel
theorem d_MD_step_10 : decode M_MD_step.2.1 10 = .ok (.lmul, 1) := by decide +kernel
theorem d_MD_step_11 : decode M_MD_step.2.1 11 = .ok (.goto 8, 3) := by decide +kernel
theorem d_MD_step_14 : decode M_MD_step.2.1 14 = .ok (.ldc2_w 166, 3) := by decide +kernel
theorem d_MD_step_17 : decode M_MD_step.2.1 17 = .ok (.lload_n 2, 1) := by decide +kernel
theorem d_MD_step_18 : decode M_MD_step.2.1 18 = .ok (.lmul, 1) := by decide +kernel
theorem d_MD_step_19 : decode M_MD_step.2.1 19 = .ok (.lstore 7, 2) := by decide +kernel
theorem d_MD_step_21 : decode M_MD_step.2.1 21 = .ok (.lload_n 2, 1) := by decide +kernel
theorem d_MD_step_22 : decode M_MD_step.2.1 22 = .ok (.lconst 0, 1) := by decide +kernel
theorem d_MD_step_23 : decode M_MD_step.2.1 23 = .ok (.lcmp, 1) := by decide +kernel
theorem d_MD_step_24 : decode M_MD_step.2.1 24 = .ok (.ifCond .ge 7, 3) := by decide +kernel
theorem d_MD_step_27 : decode M_MD_step.2.1 27 = .ok (.iconst (-1), 1) := by decide +kernel
theorem d_MD_step_28 : decode M_MD_step.2.1 28 = .ok (.goto 14, 3) := by decide +kernel
theorem d_MD_step_31 : decode M_MD_step.2.1 31 = .ok (.lload_n 2, 1) := by decide +kernel
theorem d_MD_step_32 : decode M_MD_step.2.1 32 = .ok (.lconst 0, 1) := by decide +kernel
theorem d_MD_step_33 : decode M_MD_step.2.1 33 = .ok (.lcmp, 1) := by decide +kernel
theorem d_MD_step_34 : decode M_MD_step.2.1 34 = .ok (.ifCond .le 7, 3) := by decide +kernel
theorem d_MD_step_37 : decode M_MD_step.2.1 37 = .ok (.iconst 1, 1) := by decide +kernel
theorem d_MD_step_38 : decode M_MD_step.2.1 38 = .ok (.goto 4, 3) := by decide +kernel
theorem d_MD_step_41 : decode M_MD_step.2.1 41 = .ok (.iconst 0, 1) := by decide +kernel
theorem d_MD_step_42 : decode M_MD_step.2.1 42 = .ok (.istore 9, 2) := by decide +kernel
theorem d_MD_step_44 : decode M_MD_step.2.1 44 = .ok (.iload 6, 2) := by decide +kernel
theorem d_MD_step_46 : decode M_MD_step.2.1 46 = .ok (.iconst 1, 1) := by decide +kernel
theorem d_MD_step_47 : decode M_MD_step.2.1 47 = .ok (.if_icmp .ne 11, 3) := by decide +kernel
theorem d_MD_step_50 : decode M_MD_step.2.1 50 = .ok (.lload 7, 2) := by decide +kernel
theorem d_MD_step_52 : decode M_MD_step.2.1 52 = .ok (.lload 4, 2) := by decide +kernel
theorem d_MD_step_54 : decode M_MD_step.2.1 54 = .ok (.lcmp, 1) := by decide +kernel
theorem d_MD_step_55 : decode M_MD_step.2.1 55 = .ok (.ifCond .ge 49, 3) := by decide +kernel
theorem d_MD_step_58 : decode M_MD_step.2.1 58 = .ok (.iload 6, 2) := by decide +kernel
theorem d_MD_step_60 : decode M_MD_step.2.1 60 = .ok (.iconst 2, 1) := by decide +kernel
theorem d_MD_step_61 : decode M_MD_step.2.1 61 = .ok (.if_icmp .ne 29, 3) := by decide +kernel
theorem d_MD_step_64 : decode M_MD_step.2.1 64 = .ok (.lload 7, 2) := by decide +kernel
theorem d_MD_step_66 : decode M_MD_step.2.1 66 = .ok (.lload 4, 2) := by decide +kernel
theorem d_MD_step_68 : decode M_MD_step.2.1 68 = .ok (.lcmp, 1) := by decide +kernel
theorem d_MD_step_69 : decode M_MD_step.2.1 69 = .ok (.ifCond .gt 35, 3) := by decide +kernel
theorem d_MD_step_72 : decode M_MD_step.2.1 72 = .ok (.lload 7, 2) := by decide +kernel
theorem d_MD_step_74 : decode M_MD_step.2.1 74 = .ok (.lload 4, 2) := by decide +kernel
theorem d_MD_step_76 : decode M_MD_step.2.1 76 = .ok (.lcmp, 1) := by decide +kernel
theorem d_MD_step_77 : decode M_MD_step.2.1 77 = .ok (.ifCond .ne 13, 3) := by decide +kernel
theorem d_MD_step_80 : decode M_MD_step.2.1 80 = .ok (.lload_n 0, 1) := by decide +kernel
theorem d_MD_step_81 : decode M_MD_step.2.1 81 = .ok (.ldc2_w 166, 3) := by decide +kernel
theorem d_MD_step_84 : decode M_MD_step.2.1 84 = .ok (.lrem, 1) := by decide +kernel
theorem d_MD_step_85 : decode M_MD_step.2.1 85 = .ok (.lconst 0, 1) := by decide +kernel
theorem d_MD_step_86 : decode M_MD_step.2.1 86 = .ok (.lcmp, 1) := by decide +kernel
theorem d_MD_step_87 : decode M_MD_step.2.1 87 = .ok (.ifCond .ne 17, 3) := by decide +kernel
theorem d_MD_step_90 : decode M_MD_step.2.1 90 = .ok (.iload 6, 2) := by decide +kernel
theorem d_MD_step_92 : decode M_MD_step.2.1 92 = .ok (.iconst 3, 1) := by decide +kernel
theorem d_MD_step_93 : decode M_MD_step.2.1 93 = .ok (.if_icmp .ne 15, 3) := by decide +kernel
theorem d_MD_step_96 : decode M_MD_step.2.1 96 = .ok (.lload 7, 2) := by decide +kernel
theorem d_MD_step_98 : decode M_MD_step.2.1 98 = .ok (.lload 4, 2) := by decide +kernel
theorem d_MD_step_100 : decode M_MD_step.2.1 100 = .ok (.lcmp, 1) := by decide +kernel
theorem d_MD_step_101 : decode M_MD_step.2.1 101 = .ok (.ifCond .le 7, 3) := by decide +kernel
theorem d_MD_step_104 : decode M_MD_step.2.1 104 = .ok (.iconst 1, 1) := by decide +kernel
theorem d_MD_step_105 : decode M_MD_step.2.1 105 = .ok (.goto 4, 3) := by decide +kernel
theorem d_MD_step_108 : decode M_MD_step.2.1 108 = .ok (.iconst 0, 1) := by decide +kernel
theorem d_MD_step_109 : decode M_MD_step.2.1 109 = .ok (.istore 10, 2) := by decide +kernel
theorem d_MD_step_111 : decode M_MD_step.2.1 111 = .ok (.iload 10, 2) := by decide +kernel
theorem d_MD_step_113 : decode M_MD_step.2.1 113 = .ok (.ifCond .ne 34, 3) := by decide +kernel
theorem d_MD_step_116 : decode M_MD_step.2.1 116 = .ok (.iload 6, 2) := by decide +kernel
theorem d_MD_step_118 : decode M_MD_step.2.1 118 = .ok (.iconst 4, 1) := by decide +kernel
theorem d_MD_step_119 : decode M_MD_step.2.1 119 = .ok (.if_icmp .eq 28, 3) := by decide +kernel
theorem d_MD_step_122 : decode M_MD_step.2.1 122 = .ok (.iload 6, 2) := by decide +kernel
theorem d_MD_step_124 : decode M_MD_step.2.1 124 = .ok (.iconst 5, 1) := by decide +kernel
theorem d_MD_step_125 : decode M_MD_step.2.1 125 = .ok (.if_icmp .ne 9, 3) := by decide +kernel
theorem d_MD_step_128 : decode M_MD_step.2.1 128 = .ok (.lload_n 2, 1) := by decide +kernel
theorem d_MD_step_129 : decode M_MD_step.2.1 129 = .ok (.lconst 0, 1) := by decide +kernel
theorem d_MD_step_130 : decode M_MD_step.2.1 130 = .ok (.lcmp, 1) := by decide +kernel
theorem d_MD_step_131 : decode M_MD_step.2.1 131 = .ok (.ifCond .gt 16, 3) := by decide +kernel
theorem d_MD_step_134 : decode M_MD_step.2.1 134 = .ok (.iload 6, 2) := by decide +kernel
theorem d_MD_step_136 : decode M_MD_step.2.1 136 = .ok (.bipush 6, 2) := by decide +kernel
theorem d_MD_step_138 : decode M_MD_step.2.1 138 = .ok (.if_icmp .ne 13, 3) := by decide +kernel
theorem d_MD_step_141 : decode M_MD_step.2.1 141 = .ok (.lload_n 2, 1) := by decide +kernel
theorem d_MD_step_142 : decode M_MD_step.2.1 142 = .ok (.lconst 0, 1) := by decide +kernel
theorem d_MD_step_143 : decode M_MD_step.2.1 143 = .ok (.lcmp, 1) := by decide +kernel
theorem d_MD_step_144 : decode M_MD_step.2.1 144 = .ok (.ifCond .ge 7, 3) := by decide +kernel
theorem d_MD_step_147 : decode M_MD_step.2.1 147 = .ok (.iconst 1, 1) := by decide +kernel
theorem d_MD_step_148 : decode M_MD_step.2.1 148 = .ok (.goto 4, 3) := by decide +kernel
theorem d_MD_step_151 : decode M_MD_step.2.1 151 = .ok (.iconst 0, 1) := by decide +kernel
theorem d_MD_step_152 : decode M_MD_step.2.1 152 = .ok (.istore 10, 2) := by decide +kernel
theorem d_MD_step_154 : decode M_MD_step.2.1 154 = .ok (.iload 10, 2) := by decide +kernel
theorem d_MD_step_156 : decode M_MD_step.2.1 156 = .ok (.ifCond .eq 8, 3) := by decide +kernel
theorem d_MD_step_159 : decode M_MD_step.2.1 159 = .ok (.iload 9, 2) := by decide +kernel
theorem d_MD_step_161 : decode M_MD_step.2.1 161 = .ok (.goto 4, 3) := by decide +kernel
theorem d_MD_step_164 : decode M_MD_step.2.1 164 = .ok (.iconst 0, 1) := by decide +kernel
theorem d_MD_step_165 : decode M_MD_step.2.1 165 = .ok (.ireturn, 1) := by decide +kernel
theorem d_MD_divide_0 : decode M_MD_divide.2.1 0 = .ok (.iload 5, 2) := by decide +kernel
theorem d_MD_divide_2 : decode M_MD_divide.2.1 2 = .ok (.invokestatic 218, 3) := by decide +kernel
theorem d_MD_divide_5 : decode M_MD_divide.2.1 5 = .ok (.ifCond .eq 36, 3) := by decide +kernel
theorem d_MD_divide_8 : decode M_MD_divide.2.1 8 = .ok (.aload_n 0, 1) := by decide +kernel
theorem d_MD_divide_9 : decode M_MD_divide.2.1 9 = .ok (.iload_n 1, 1) := by decide +kernel
theorem d_MD_divide_10 : decode M_MD_divide.2.1 10 = .ok (.invokevirtual 221, 3) := by decide +kernel
theorem d_MD_divide_13 : decode M_MD_divide.2.1 13 = .ok (.ifCond .eq 28, 3) := by decide +kernel
theorem d_MD_divide_16 : decode M_MD_divide.2.1 16 = .ok (.aload_n 0, 1) := by decide +kernel
theorem d_MD_divide_17 : decode M_MD_divide.2.1 17 = .ok (.iload_n 2, 1) := by decide +kernel
theorem d_MD_divide_18 : decode M_MD_divide.2.1 18 = .ok (.invokevirtual 221, 3) := by decide +kernel
theorem d_MD_divide_21 : decode M_MD_divide.2.1 21 = .ok (.ifCond .eq 20, 3) := by decide +kernel
theorem d_MD_divide_24 : decode M_MD_divide.2.1 24 = .ok (.aload_n 0, 1) := by decide +kernel
theorem d_MD_divide_25 : decode M_MD_divide.2.1 25 = .ok (.iload_n 3, 1) := by decide +kernel
theorem d_MD_divide_26 : decode M_MD_divide.2.1 26 = .ok (.invokevirtual 126, 3) := by decide +kernel
theorem d_MD_divide_29 : decode M_MD_divide.2.1 29 = .ok (.ifCond .eq 12, 3) := by decide +kernel
theorem d_MD_divide_32 : decode M_MD_divide.2.1 32 = .ok (.aload_n 0, 1) := by decide +kernel
theorem d_MD_divide_33 : decode M_MD_divide.2.1 33 = .ok (.iload 4, 2) := by decide +kernel
theorem d_MD_divide_35 : decode M_MD_divide.2.1 35 = .ok (.invokevirtual 126, 3) := by decide +kernel
theorem d_MD_divide_38 : decode M_MD_divide.2.1 38 = .ok (.ifCond .ne 5, 3) := by decide +kernel
theorem d_MD_divide_41 : decode M_MD_divide.2.1 41 = .ok (.iconst (-1), 1) := by decide +kernel
theorem d_MD_divide_42 : decode M_MD_divide.2.1 42 = .ok (.ireturn, 1) := by decide +kernel
theorem d_MD_divide_43 : decode M_MD_divide.2.1 43 = .ok (.aload_n 0, 1) := by decide +kernel
theorem d_MD_divide_44 : decode M_MD_divide.2.1 44 = .ok (.iload_n 1, 1) := by decide +kernel
theorem d_MD_divide_45 : decode M_MD_divide.2.1 45 = .ok (.invokevirtual 211, 3) := by decide +kernel
theorem d_MD_divide_48 : decode M_MD_divide.2.1 48 = .ok (.ifCond .eq 11, 3) := by decide +kernel
theorem d_MD_divide_51 : decode M_MD_divide.2.1 51 = .ok (.aload_n 0, 1) := by decide +kernel
theorem d_MD_divide_52 : decode M_MD_divide.2.1 52 = .ok (.iload_n 2, 1) := by decide +kernel
theorem d_MD_divide_53 : decode M_MD_divide.2.1 53 = .ok (.invokevirtual 211, 3) := by decide +kernel
theorem d_MD_divide_56 : decode M_MD_divide.2.1 56 = .ok (.ifCond .ne 8, 3) := by decide +kernel
theorem d_MD_divide_59 : decode M_MD_divide.2.1 59 = .ok (.aload_n 0, 1) := by decide +kernel
theorem d_MD_divide_60 : decode M_MD_divide.2.1 60 = .ok (.invokevirtual 214, 3) := by decide +kernel
theorem d_MD_divide_63 : decode M_MD_divide.2.1 63 = .ok (.ireturn, 1) := by decide +kernel
theorem d_MD_divide_64 : decode M_MD_divide.2.1 64 = .ok (.aload_n 0, 1) := by decide +kernel
theorem d_MD_divide_65 : decode M_MD_divide.2.1 65 = .ok (.iload_n 1, 1) := by decide +kernel
theorem d_MD_divide_66 : decode M_MD_divide.2.1 66 = .ok (.invokevirtual 181, 3) := by decide +kernel
theorem d_MD_divide_69 : decode M_MD_divide.2.1 69 = .ok (.lstore 6, 2) := by decide +kernel
theorem d_MD_divide_71 : decode M_MD_divide.2.1 71 = .ok (.aload_n 0, 1) := by decide +kernel
theorem d_MD_divide_72 : decode M_MD_divide.2.1 72 = .ok (.iload_n 2, 1) := by decide +kernel
theorem d_MD_divide_73 : decode M_MD_divide.2.1 73 = .ok (.invokevirtual 181, 3) := by decide +kernel
theorem d_MD_divide_76 : decode M_MD_divide.2.1 76 = .ok (.lstore 8, 2) := by decide +kernel
theorem d_MD_divide_78 : decode M_MD_divide.2.1 78 = .ok (.aload_n 0, 1) := by decide +kernel
theorem d_MD_divide_79 : decode M_MD_divide.2.1 79 = .ok (.getfield 28, 3) := by decide +kernel
theorem d_MD_divide_82 : decode M_MD_divide.2.1 82 = .ok (.iload_n 1, 1) := by decide +kernel
theorem d_MD_divide_83 : decode M_MD_divide.2.1 83 = .ok (.iaload, 1) := by decide +kernel
theorem d_MD_divide_84 : decode M_MD_divide.2.1 84 = .ok (.invokestatic 138, 3) := by decide +kernel
theorem d_MD_divide_87 : decode M_MD_divide.2.1 87 = .ok (.lstore 10, 2) := by decide +kernel
theorem d_MD_divide_89 : decode M_MD_divide.2.1 89 = .ok (.aload_n 0, 1) := by decide +kernel
theorem d_MD_divide_90 : decode M_MD_divide.2.1 90 = .ok (.getfield 28, 3) := by decide +kernel
theorem d_MD_divide_93 : decode M_MD_divide.2.1 93 = .ok (.iload_n 2, 1) := by decide +kernel
theorem d_MD_divide_94 : decode M_MD_divide.2.1 94 = .ok (.iaload, 1) := by decide +kernel
theorem d_MD_divide_95 : decode M_MD_divide.2.1 95 = .ok (.invokestatic 138, 3) := by decide +kernel
theorem d_MD_divide_98 : decode M_MD_divide.2.1 98 = .ok (.aload_n 0, 1) := by decide +kernel
theorem d_MD_divide_99 : decode M_MD_divide.2.1 99 = .ok (.getfield 28, 3) := by decide +kernel
theorem d_MD_divide_102 : decode M_MD_divide.2.1 102 = .ok (.iload_n 3, 1) := by decide +kernel
theorem d_MD_divide_103 : decode M_MD_divide.2.1 103 = .ok (.iaload, 1) := by decide +kernel
theorem d_MD_divide_104 : decode M_MD_divide.2.1 104 = .ok (.invokestatic 138, 3) := by decide +kernel
theorem d_MD_divide_107 : decode M_MD_divide.2.1 107 = .ok (.lmul, 1) := by decide +kernel
theorem d_MD_divide_108 : decode M_MD_divide.2.1 108 = .ok (.lstore 12, 2) := by decide +kernel
theorem d_MD_divide_110 : decode M_MD_divide.2.1 110 = .ok (.aload_n 0, 1) := by decide +kernel
theorem d_MD_divide_111 : decode M_MD_divide.2.1 111 = .ok (.iload_n 1, 1) := by decide +kernel
theorem d_MD_divide_112 : decode M_MD_divide.2.1 112 = .ok (.iload_n 2, 1) := by decide +kernel
theorem d_MD_divide_113 : decode M_MD_divide.2.1 113 = .ok (.iload_n 3, 1) := by decide +kernel
theorem d_MD_divide_114 : decode M_MD_divide.2.1 114 = .ok (.iload 5, 2) := by decide +kernel
theorem d_MD_divide_116 : decode M_MD_divide.2.1 116 = .ok (.invokevirtual 224, 3) := by decide +kernel
theorem d_MD_divide_119 : decode M_MD_divide.2.1 119 = .ok (.ifCond .eq 5, 3) := by decide +kernel
theorem d_MD_divide_122 : decode M_MD_divide.2.1 122 = .ok (.iconst 1, 1) := by decide +kernel
theorem d_MD_divide_123 : decode M_MD_divide.2.1 123 = .ok (.ireturn, 1) := by decide +kernel
theorem d_MD_divide_124 : decode M_MD_divide.2.1 124 = .ok (.lload 6, 2) := by decide +kernel
theorem d_MD_divide_126 : decode M_MD_divide.2.1 126 = .ok (.lload 12, 2) := by decide +kernel
theorem d_MD_divide_128 : decode M_MD_divide.2.1 128 = .ok (.lmul, 1) := by decide +kernel
theorem d_MD_divide_129 : decode M_MD_divide.2.1 129 = .ok (.lload 8, 2) := by decide +kernel
theorem d_MD_divide_131 : decode M_MD_divide.2.1 131 = .ok (.lload 10, 2) := by decide +kernel
theorem d_MD_divide_133 : decode M_MD_divide.2.1 133 = .ok (.lmul, 1) := by decide +kernel
theorem d_MD_divide_134 : decode M_MD_divide.2.1 134 = .ok (.ldiv, 1) := by decide +kernel
theorem d_MD_divide_135 : decode M_MD_divide.2.1 135 = .ok (.lstore 14, 2) := by decide +kernel
theorem d_MD_divide_137 : decode M_MD_divide.2.1 137 = .ok (.lload 6, 2) := by decide +kernel
theorem d_MD_divide_139 : decode M_MD_divide.2.1 139 = .ok (.lload 12, 2) := by decide +kernel
theorem d_MD_divide_141 : decode M_MD_divide.2.1 141 = .ok (.lmul, 1) := by decide +kernel
theorem d_MD_divide_142 : decode M_MD_divide.2.1 142 = .ok (.lload 8, 2) := by decide +kernel
theorem d_MD_divide_144 : decode M_MD_divide.2.1 144 = .ok (.lload 14, 2) := by decide +kernel
theorem d_MD_divide_146 : decode M_MD_divide.2.1 146 = .ok (.lmul, 1) := by decide +kernel
theorem d_MD_divide_147 : decode M_MD_divide.2.1 147 = .ok (.lload 10, 2) := by decide +kernel
theorem d_MD_divide_149 : decode M_MD_divide.2.1 149 = .ok (.lmul, 1) := by decide +kernel
theorem d_MD_divide_150 : decode M_MD_divide.2.1 150 = .ok (.lsub, 1) := by decide +kernel
theorem d_MD_divide_151 : decode M_MD_divide.2.1 151 = .ok (.lstore 16, 2) := by decide +kernel
theorem d_MD_divide_153 : decode M_MD_divide.2.1 153 = .ok (.aload_n 0, 1) := by decide +kernel
theorem d_MD_divide_154 : decode M_MD_divide.2.1 154 = .ok (.lload 16, 2) := by decide +kernel
theorem d_MD_divide_156 : decode M_MD_divide.2.1 156 = .ok (.lload 10, 2) := by decide +kernel
theorem d_MD_divide_158 : decode M_MD_divide.2.1 158 = .ok (.lload 12, 2) := by decide +kernel
theorem d_MD_divide_160 : decode M_MD_divide.2.1 160 = .ok (.lmul, 1) := by decide +kernel
theorem d_MD_divide_161 : decode M_MD_divide.2.1 161 = .ok (.iload 4, 2) := by decide +kernel
theorem d_MD_divide_163 : decode M_MD_divide.2.1 163 = .ok (.iconst 0, 1) := by decide +kernel
theorem d_MD_divide_164 : decode M_MD_divide.2.1 164 = .ok (.invokevirtual 228, 3) := by decide +kernel
theorem d_MD_divide_167 : decode M_MD_divide.2.1 167 = .ok (.ifCond .eq 7, 3) := by decide +kernel
theorem d_MD_divide_170 : decode M_MD_divide.2.1 170 = .ok (.iconst 2, 1) := by decide +kernel
theorem d_MD_divide_171 : decode M_MD_divide.2.1 171 = .ok (.goto 4, 3) := by decide +kernel
theorem d_MD_divide_174 : decode M_MD_divide.2.1 174 = .ok (.iconst 0, 1) := by decide +kernel
theorem d_MD_divide_175 : decode M_MD_divide.2.1 175 = .ok (.ireturn, 1) := by decide +kernel
theorem d_MD_addTo_0 : decode M_MD_addTo.2.1 0 = .ok (.iload 4, 2) := by decide +kernel
theorem d_MD_addTo_2 : decode M_MD_addTo.2.1 2 = .ok (.invokestatic 218, 3) := by decide +kernel
theorem d_MD_addTo_5 : decode M_MD_addTo.2.1 5 = .ok (.ifCond .eq 20, 3) := by decide +kernel
theorem d_MD_addTo_8 : decode M_MD_addTo.2.1 8 = .ok (.aload_n 0, 1) := by decide +kernel
theorem d_MD_addTo_9 : decode M_MD_addTo.2.1 9 = .ok (.iload_n 1, 1) := by decide +kernel
theorem d_MD_addTo_10 : decode M_MD_addTo.2.1 10 = .ok (.invokevirtual 221, 3) := by decide +kernel
theorem d_MD_addTo_13 : decode M_MD_addTo.2.1 13 = .ok (.ifCond .eq 12, 3) := by decide +kernel
theorem d_MD_addTo_16 : decode M_MD_addTo.2.1 16 = .ok (.aload_n 0, 1) := by decide +kernel
theorem d_MD_addTo_17 : decode M_MD_addTo.2.1 17 = .ok (.iload_n 2, 1) := by decide +kernel
theorem d_MD_addTo_18 : decode M_MD_addTo.2.1 18 = .ok (.iload_n 3, 1) := by decide +kernel
theorem d_MD_addTo_19 : decode M_MD_addTo.2.1 19 = .ok (.invokevirtual 232, 3) := by decide +kernel
theorem d_MD_addTo_22 : decode M_MD_addTo.2.1 22 = .ok (.ifCond .ne 5, 3) := by decide +kernel
theorem d_MD_addTo_25 : decode M_MD_addTo.2.1 25 = .ok (.iconst (-1), 1) := by decide +kernel
theorem d_MD_addTo_26 : decode M_MD_addTo.2.1 26 = .ok (.ireturn, 1) := by decide +kernel
theorem d_MD_addTo_27 : decode M_MD_addTo.2.1 27 = .ok (.aload_n 0, 1) := by decide +kernel
theorem d_MD_addTo_28 : decode M_MD_addTo.2.1 28 = .ok (.iload_n 1, 1) := by decide +kernel
theorem d_MD_addTo_29 : decode M_MD_addTo.2.1 29 = .ok (.invokevirtual 211, 3) := by decide +kernel
theorem d_MD_addTo_32 : decode M_MD_addTo.2.1 32 = .ok (.istore 5, 2) := by decide +kernel
theorem d_MD_addTo_34 : decode M_MD_addTo.2.1 34 = .ok (.aload_n 0, 1) := by decide +kernel
theorem d_MD_addTo_35 : decode M_MD_addTo.2.1 35 = .ok (.iload_n 2, 1) := by decide +kernel
theorem d_MD_addTo_36 : decode M_MD_addTo.2.1 36 = .ok (.iload_n 3, 1) := by decide +kernel
theorem d_MD_addTo_37 : decode M_MD_addTo.2.1 37 = .ok (.invokevirtual 235, 3) := by decide +kernel
theorem d_MD_addTo_40 : decode M_MD_addTo.2.1 40 = .ok (.ifCond .eq 12, 3) := by decide +kernel
theorem d_MD_addTo_43 : decode M_MD_addTo.2.1 43 = .ok (.iload 5, 2) := by decide +kernel
theorem d_MD_addTo_45 : decode M_MD_addTo.2.1 45 = .ok (.ifCond .eq 7, 3) := by decide +kernel
theorem d_MD_addTo_48 : decode M_MD_addTo.2.1 48 = .ok (.iconst 1, 1) := by decide +kernel
theorem d_MD_addTo_49 : decode M_MD_addTo.2.1 49 = .ok (.goto 4, 3) := by decide +kernel
theorem d_MD_addTo_52 : decode M_MD_addTo.2.1 52 = .ok (.iconst 0, 1) := by decide +kernel
theorem d_MD_addTo_53 : decode M_MD_addTo.2.1 53 = .ok (.istore 5, 2) := by decide +kernel
theorem d_MD_addTo_55 : decode M_MD_addTo.2.1 55 = .ok (.iload 5, 2) := by decide +kernel
theorem d_MD_addTo_57 : decode M_MD_addTo.2.1 57 = .ok (.ifCond .ne 8, 3) := by decide +kernel
theorem d_MD_addTo_60 : decode M_MD_addTo.2.1 60 = .ok (.aload_n 0, 1) := by decide +kernel
theorem d_MD_addTo_61 : decode M_MD_addTo.2.1 61 = .ok (.invokevirtual 214, 3) := by decide +kernel
theorem d_MD_addTo_64 : decode M_MD_addTo.2.1 64 = .ok (.ireturn, 1) := by decide +kernel
theorem d_MD_addTo_65 : decode M_MD_addTo.2.1 65 = .ok (.aload_n 0, 1) := by decide +kernel
theorem d_MD_addTo_66 : decode M_MD_addTo.2.1 66 = .ok (.iload_n 1, 1) := by decide +kernel
theorem d_MD_addTo_67 : decode M_MD_addTo.2.1 67 = .ok (.invokevirtual 181, 3) := by decide +kernel
theorem d_MD_addTo_70 : decode M_MD_addTo.2.1 70 = .ok (.lstore 6, 2) := by decide +kernel
theorem d_MD_addTo_72 : decode M_MD_addTo.2.1 72 = .ok (.aload_n 0, 1) := by decide +kernel
theorem d_MD_addTo_73 : decode M_MD_addTo.2.1 73 = .ok (.getfield 28, 3) := by decide +kernel
theorem d_MD_addTo_76 : decode M_MD_addTo.2.1 76 = .ok (.iload_n 1, 1) := by decide +kernel
theorem d_MD_addTo_77 : decode M_MD_addTo.2.1 77 = .ok (.iaload, 1) := by decide +kernel
theorem d_MD_addTo_78 : decode M_MD_addTo.2.1 78 = .ok (.invokestatic 138, 3) := by decide +kernel
theorem d_MD_addTo_81 : decode M_MD_addTo.2.1 81 = .ok (.lstore 8, 2) := by decide +kernel
theorem d_MD_addTo_83 : decode M_MD_addTo.2.1 83 = .ok (.iconst 0, 1) := by decide +kernel
theorem d_MD_addTo_84 : decode M_MD_addTo.2.1 84 = .ok (.istore 10, 2) := by decide +kernel
theorem d_MD_addTo_86 : decode M_MD_addTo.2.1 86 = .ok (.iload_n 2, 1) := by decide +kernel
theorem d_MD_addTo_87 : decode M_MD_addTo.2.1 87 = .ok (.istore 11, 2) := by decide +kernel
theorem d_MD_addTo_89 : decode M_MD_addTo.2.1 89 = .ok (.iload 11, 2) := by decide +kernel
theorem d_MD_addTo_91 : decode M_MD_addTo.2.1 91 = .ok (.iload_n 3, 1) := by decide +kernel
theorem d_MD_addTo_92 : decode M_MD_addTo.2.1 92 = .ok (.if_icmp .gt 77, 3) := by decide +kernel
theorem d_MD_addTo_95 : decode M_MD_addTo.2.1 95 = .ok (.aload_n 0, 1) := by decide +kernel
theorem d_MD_addTo_96 : decode M_MD_addTo.2.1 96 = .ok (.getfield 35, 3) := by decide +kernel
theorem d_MD_addTo_99 : decode M_MD_addTo.2.1 99 = .ok (.iload 11, 2) := by decide +kernel
theorem d_MD_addTo_101 : decode M_MD_addTo.2.1 101 = .ok (.baload, 1) := by decide +kernel
theorem d_MD_addTo_102 : decode M_MD_addTo.2.1 102 = .ok (.ifCond .ne 61, 3) := by decide +kernel
theorem d_MD_addTo_105 : decode M_MD_addTo.2.1 105 = .ok (.aload_n 0, 1) := by decide +kernel
theorem d_MD_addTo_106 : decode M_MD_addTo.2.1 106 = .ok (.getfield 28, 3) := by decide +kernel
theorem d_MD_addTo_109 : decode M_MD_addTo.2.1 109 = .ok (.iload 11, 2) := by decide +kernel
theorem d_MD_addTo_111 : decode M_MD_addTo.2.1 111 = .ok (.iaload, 1) := by decide +kernel
theorem d_MD_addTo_112 : decode M_MD_addTo.2.1 112 = .ok (.invokestatic 138, 3) := by decide +kernel
theorem d_MD_addTo_115 : decode M_MD_addTo.2.1 115 = .ok (.lstore 12, 2) := by decide +kernel
theorem d_MD_addTo_117 : decode M_MD_addTo.2.1 117 = .ok (.aload_n 0, 1) := by decide +kernel
theorem d_MD_addTo_118 : decode M_MD_addTo.2.1 118 = .ok (.aload_n 0, 1) := by decide +kernel
theorem d_MD_addTo_119 : decode M_MD_addTo.2.1 119 = .ok (.getfield 53, 3) := by decide +kernel
theorem d_MD_addTo_122 : decode M_MD_addTo.2.1 122 = .ok (.iload 11, 2) := by decide +kernel
theorem d_MD_addTo_124 : decode M_MD_addTo.2.1 124 = .ok (.laload, 1) := by decide +kernel
theorem d_MD_addTo_125 : decode M_MD_addTo.2.1 125 = .ok (.lload 8, 2) := by decide +kernel
theorem d_MD_addTo_127 : decode M_MD_addTo.2.1 127 = .ok (.lmul, 1) := by decide +kernel
theorem d_MD_addTo_128 : decode M_MD_addTo.2.1 128 = .ok (.lload 6, 2) := by decide +kernel
theorem d_MD_addTo_130 : decode M_MD_addTo.2.1 130 = .ok (.lload 12, 2) := by decide +kernel
theorem d_MD_addTo_132 : decode M_MD_addTo.2.1 132 = .ok (.lmul, 1) := by decide +kernel
theorem d_MD_addTo_133 : decode M_MD_addTo.2.1 133 = .ok (.ladd, 1) := by decide +kernel
theorem d_MD_addTo_134 : decode M_MD_addTo.2.1 134 = .ok (.lload 12, 2) := by decide +kernel
theorem d_MD_addTo_136 : decode M_MD_addTo.2.1 136 = .ok (.lload 8, 2) := by decide +kernel
theorem d_MD_addTo_138 : decode M_MD_addTo.2.1 138 = .ok (.lmul, 1) := by decide +kernel
theorem d_MD_addTo_139 : decode M_MD_addTo.2.1 139 = .ok (.iload 11, 2) := by decide +kernel
theorem d_MD_addTo_141 : decode M_MD_addTo.2.1 141 = .ok (.iload 4, 2) := by decide +kernel
theorem d_MD_addTo_143 : decode M_MD_addTo.2.1 143 = .ok (.invokevirtual 228, 3) := by decide +kernel
theorem d_MD_addTo_146 : decode M_MD_addTo.2.1 146 = .ok (.ifCond .eq 13, 3) := by decide +kernel
theorem d_MD_addTo_149 : decode M_MD_addTo.2.1 149 = .ok (.iload 10, 2) := by decide +kernel
theorem d_MD_addTo_151 : decode M_MD_addTo.2.1 151 = .ok (.iconst 1, 1) := by decide +kernel
theorem d_MD_addTo_152 : decode M_MD_addTo.2.1 152 = .ok (.iload 11, 2) := by decide +kernel
theorem d_MD_addTo_154 : decode M_MD_addTo.2.1 154 = .ok (.ishl, 1) := by decide +kernel
theorem d_MD_addTo_155 : decode M_MD_addTo.2.1 155 = .ok (.iadd, 1) := by decide +kernel
theorem d_MD_addTo_156 : decode M_MD_addTo.2.1 156 = .ok (.goto 5, 3) := by decide +kernel
theorem d_MD_addTo_159 : decode M_MD_addTo.2.1 159 = .ok (.iload 10, 2) := by decide +kernel
theorem d_MD_addTo_161 : decode M_MD_addTo.2.1 161 = .ok (.istore 10, 2) := by decide +kernel
theorem d_MD_addTo_163 : decode M_MD_addTo.2.1 163 = .ok (.iinc 11 1, 3) := by decide +kernel
theorem d_MD_addTo_166 : decode M_MD_addTo.2.1 166 = .ok (.goto (-77), 3) := by decide +kernel
theorem d_MD_addTo_169 : decode M_MD_addTo.2.1 169 = .ok (.iload 10, 2) := by decide +kernel
theorem d_MD_addTo_171 : decode M_MD_addTo.2.1 171 = .ok (.ireturn, 1) := by decide +kernel
theorem d_MD_range_0 : decode M_MD_range.2.1 0 = .ok (.aload_n 0, 1) := by decide +kernel
theorem d_MD_range_1 : decode M_MD_range.2.1 1 = .ok (.iload_n 1, 1) := by decide +kernel
theorem d_MD_range_2 : decode M_MD_range.2.1 2 = .ok (.invokevirtual 126, 3) := by decide +kernel
theorem d_MD_range_5 : decode M_MD_range.2.1 5 = .ok (.ifCond .eq 20, 3) := by decide +kernel
theorem d_MD_range_8 : decode M_MD_range.2.1 8 = .ok (.aload_n 0, 1) := by decide +kernel
theorem d_MD_range_9 : decode M_MD_range.2.1 9 = .ok (.iload_n 2, 1) := by decide +kernel
theorem d_MD_range_10 : decode M_MD_range.2.1 10 = .ok (.invokevirtual 126, 3) := by decide +kernel
theorem d_MD_range_13 : decode M_MD_range.2.1 13 = .ok (.ifCond .eq 12, 3) := by decide +kernel
theorem d_MD_range_16 : decode M_MD_range.2.1 16 = .ok (.iload_n 1, 1) := by decide +kernel
theorem d_MD_range_17 : decode M_MD_range.2.1 17 = .ok (.iload_n 2, 1) := by decide +kernel
theorem d_MD_range_18 : decode M_MD_range.2.1 18 = .ok (.if_icmp .gt 7, 3) := by decide +kernel
theorem d_MD_range_21 : decode M_MD_range.2.1 21 = .ok (.iconst 1, 1) := by decide +kernel
theorem d_MD_range_22 : decode M_MD_range.2.1 22 = .ok (.goto 4, 3) := by decide +kernel
theorem d_MD_range_25 : decode M_MD_range.2.1 25 = .ok (.iconst 0, 1) := by decide +kernel
theorem d_MD_range_26 : decode M_MD_range.2.1 26 = .ok (.ireturn, 1) := by decide +kernel
theorem d_MD_hold_0 : decode M_MD_hold.2.1 0 = .ok (.iconst 1, 1) := by decide +kernel
theorem d_MD_hold_1 : decode M_MD_hold.2.1 1 = .ok (.istore_n 3, 1) := by decide +kernel
theorem d_MD_hold_2 : decode M_MD_hold.2.1 2 = .ok (.iload_n 1, 1) := by decide +kernel
theorem d_MD_hold_3 : decode M_MD_hold.2.1 3 = .ok (.istore 4, 2) := by decide +kernel
theorem d_MD_hold_5 : decode M_MD_hold.2.1 5 = .ok (.iload 4, 2) := by decide +kernel
theorem d_MD_hold_7 : decode M_MD_hold.2.1 7 = .ok (.iload_n 2, 1) := by decide +kernel
theorem d_MD_hold_8 : decode M_MD_hold.2.1 8 = .ok (.if_icmp .gt 49, 3) := by decide +kernel
theorem d_MD_hold_11 : decode M_MD_hold.2.1 11 = .ok (.aload_n 0, 1) := by decide +kernel
theorem d_MD_hold_12 : decode M_MD_hold.2.1 12 = .ok (.getfield 35, 3) := by decide +kernel
theorem d_MD_hold_15 : decode M_MD_hold.2.1 15 = .ok (.iload 4, 2) := by decide +kernel
theorem d_MD_hold_17 : decode M_MD_hold.2.1 17 = .ok (.baload, 1) := by decide +kernel
theorem d_MD_hold_18 : decode M_MD_hold.2.1 18 = .ok (.ifCond .ne 33, 3) := by decide +kernel
theorem d_MD_hold_21 : decode M_MD_hold.2.1 21 = .ok (.aload_n 0, 1) := by decide +kernel
theorem d_MD_hold_22 : decode M_MD_hold.2.1 22 = .ok (.getfield 53, 3) := by decide +kernel
theorem d_MD_hold_25 : decode M_MD_hold.2.1 25 = .ok (.iload 4, 2) := by decide +kernel
theorem d_MD_hold_27 : decode M_MD_hold.2.1 27 = .ok (.aload_n 0, 1) := by decide +kernel
theorem d_MD_hold_28 : decode M_MD_hold.2.1 28 = .ok (.iload 4, 2) := by decide +kernel
theorem d_MD_hold_30 : decode M_MD_hold.2.1 30 = .ok (.invokevirtual 181, 3) := by decide +kernel
theorem d_MD_hold_33 : decode M_MD_hold.2.1 33 = .ok (.lastore, 1) := by decide +kernel
theorem d_MD_hold_34 : decode M_MD_hold.2.1 34 = .ok (.iload_n 3, 1) := by decide +kernel
theorem d_MD_hold_35 : decode M_MD_hold.2.1 35 = .ok (.ifCond .eq 14, 3) := by decide +kernel
theorem d_MD_hold_38 : decode M_MD_hold.2.1 38 = .ok (.aload_n 0, 1) := by decide +kernel
theorem d_MD_hold_39 : decode M_MD_hold.2.1 39 = .ok (.getfield 158, 3) := by decide +kernel
theorem d_MD_hold_42 : decode M_MD_hold.2.1 42 = .ok (.ifCond .eq 7, 3) := by decide +kernel
theorem d_MD_hold_45 : decode M_MD_hold.2.1 45 = .ok (.iconst 1, 1) := by decide +kernel
theorem d_MD_hold_46 : decode M_MD_hold.2.1 46 = .ok (.goto 4, 3) := by decide +kernel
theorem d_MD_hold_49 : decode M_MD_hold.2.1 49 = .ok (.iconst 0, 1) := by decide +kernel
theorem d_MD_hold_50 : decode M_MD_hold.2.1 50 = .ok (.istore_n 3, 1) := by decide +kernel
theorem d_MD_hold_51 : decode M_MD_hold.2.1 51 = .ok (.iinc 4 1, 3) := by decide +kernel
theorem d_MD_hold_54 : decode M_MD_hold.2.1 54 = .ok (.goto (-49), 3) := by decide +kernel
theorem d_MD_hold_57 : decode M_MD_hold.2.1 57 = .ok (.iload_n 3, 1) := by decide +kernel
theorem d_MD_hold_58 : decode M_MD_hold.2.1 58 = .ok (.ireturn, 1) := by decide +kernel
theorem d_MD_total_0 : decode M_MD_total.2.1 0 = .ok (.iload 4, 2) := by decide +kernel
theorem d_MD_total_2 : decode M_MD_total.2.1 2 = .ok (.invokestatic 218, 3) := by decide +kernel
theorem d_MD_total_5 : decode M_MD_total.2.1 5 = .ok (.ifCond .eq 20, 3) := by decide +kernel
theorem d_MD_total_8 : decode M_MD_total.2.1 8 = .ok (.aload_n 0, 1) := by decide +kernel
theorem d_MD_total_9 : decode M_MD_total.2.1 9 = .ok (.iload_n 3, 1) := by decide +kernel
theorem d_MD_total_10 : decode M_MD_total.2.1 10 = .ok (.invokevirtual 126, 3) := by decide +kernel
theorem d_MD_total_13 : decode M_MD_total.2.1 13 = .ok (.ifCond .eq 12, 3) := by decide +kernel
theorem d_MD_total_16 : decode M_MD_total.2.1 16 = .ok (.aload_n 0, 1) := by decide +kernel
theorem d_MD_total_17 : decode M_MD_total.2.1 17 = .ok (.iload_n 1, 1) := by decide +kernel
theorem d_MD_total_18 : decode M_MD_total.2.1 18 = .ok (.iload_n 2, 1) := by decide +kernel
theorem d_MD_total_19 : decode M_MD_total.2.1 19 = .ok (.invokevirtual 232, 3) := by decide +kernel
theorem d_MD_total_22 : decode M_MD_total.2.1 22 = .ok (.ifCond .ne 5, 3) := by decide +kernel
theorem d_MD_total_25 : decode M_MD_total.2.1 25 = .ok (.iconst (-1), 1) := by decide +kernel
theorem d_MD_total_26 : decode M_MD_total.2.1 26 = .ok (.ireturn, 1) := by decide +kernel
theorem d_MD_total_27 : decode M_MD_total.2.1 27 = .ok (.aload_n 0, 1) := by decide +kernel
theorem d_MD_total_28 : decode M_MD_total.2.1 28 = .ok (.iload_n 1, 1) := by decide +kernel
theorem d_MD_total_29 : decode M_MD_total.2.1 29 = .ok (.iload_n 2, 1) := by decide +kernel
theorem d_MD_total_30 : decode M_MD_total.2.1 30 = .ok (.invokevirtual 235, 3) := by decide +kernel
theorem d_MD_total_33 : decode M_MD_total.2.1 33 = .ok (.ifCond .ne 8, 3) := by decide +kernel
theorem d_MD_total_36 : decode M_MD_total.2.1 36 = .ok (.aload_n 0, 1) := by decide +kernel
theorem d_MD_total_37 : decode M_MD_total.2.1 37 = .ok (.invokevirtual 214, 3) := by decide +kernel
theorem d_MD_total_40 : decode M_MD_total.2.1 40 = .ok (.ireturn, 1) := by decide +kernel
theorem d_MD_total_41 : decode M_MD_total.2.1 41 = .ok (.lconst 0, 1) := by decide +kernel
theorem d_MD_total_42 : decode M_MD_total.2.1 42 = .ok (.lstore 5, 2) := by decide +kernel
theorem d_MD_total_44 : decode M_MD_total.2.1 44 = .ok (.iload_n 1, 1) := by decide +kernel
theorem d_MD_total_45 : decode M_MD_total.2.1 45 = .ok (.istore 7, 2) := by decide +kernel
theorem d_MD_total_47 : decode M_MD_total.2.1 47 = .ok (.iload 7, 2) := by decide +kernel
theorem d_MD_total_49 : decode M_MD_total.2.1 49 = .ok (.iload_n 2, 1) := by decide +kernel
theorem d_MD_total_50 : decode M_MD_total.2.1 50 = .ok (.if_icmp .gt 49, 3) := by decide +kernel
theorem d_MD_total_53 : decode M_MD_total.2.1 53 = .ok (.aload_n 0, 1) := by decide +kernel
theorem d_MD_total_54 : decode M_MD_total.2.1 54 = .ok (.getfield 35, 3) := by decide +kernel
theorem d_MD_total_57 : decode M_MD_total.2.1 57 = .ok (.iload 7, 2) := by decide +kernel
theorem d_MD_total_59 : decode M_MD_total.2.1 59 = .ok (.baload, 1) := by decide +kernel
theorem d_MD_total_60 : decode M_MD_total.2.1 60 = .ok (.ifCond .eq 8, 3) := by decide +kernel
theorem d_MD_total_63 : decode M_MD_total.2.1 63 = .ok (.lload 5, 2) := by decide +kernel
theorem d_MD_total_65 : decode M_MD_total.2.1 65 = .ok (.goto 26, 3) := by decide +kernel
theorem d_MD_total_68 : decode M_MD_total.2.1 68 = .ok (.lload 5, 2) := by decide +kernel
theorem d_MD_total_70 : decode M_MD_total.2.1 70 = .ok (.aload_n 0, 1) := by decide +kernel
theorem d_MD_total_71 : decode M_MD_total.2.1 71 = .ok (.getfield 53, 3) := by decide +kernel
theorem d_MD_total_74 : decode M_MD_total.2.1 74 = .ok (.iload 7, 2) := by decide +kernel
theorem d_MD_total_76 : decode M_MD_total.2.1 76 = .ok (.laload, 1) := by decide +kernel
theorem d_MD_total_77 : decode M_MD_total.2.1 77 = .ok (.iconst 4, 1) := by decide +kernel
theorem d_MD_total_78 : decode M_MD_total.2.1 78 = .ok (.aload_n 0, 1) := by decide +kernel
theorem d_MD_total_79 : decode M_MD_total.2.1 79 = .ok (.getfield 28, 3) := by decide +kernel
theorem d_MD_total_82 : decode M_MD_total.2.1 82 = .ok (.iload 7, 2) := by decide +kernel
theorem d_MD_total_84 : decode M_MD_total.2.1 84 = .ok (.iaload, 1) := by decide +kernel
theorem d_MD_total_85 : decode M_MD_total.2.1 85 = .ok (.isub, 1) := by decide +kernel
theorem d_MD_total_86 : decode M_MD_total.2.1 86 = .ok (.invokestatic 138, 3) := by decide +kernel
theorem d_MD_total_89 : decode M_MD_total.2.1 89 = .ok (.lmul, 1) := by decide +kernel
theorem d_MD_total_90 : decode M_MD_total.2.1 90 = .ok (.ladd, 1) := by decide +kernel
theorem d_MD_total_91 : decode M_MD_total.2.1 91 = .ok (.lstore 5, 2) := by decide +kernel
theorem d_MD_total_93 : decode M_MD_total.2.1 93 = .ok (.iinc 7 1, 3) := by decide +kernel
theorem d_MD_total_96 : decode M_MD_total.2.1 96 = .ok (.goto (-49), 3) := by decide +kernel
theorem d_MD_total_99 : decode M_MD_total.2.1 99 = .ok (.aload_n 0, 1) := by decide +kernel
theorem d_MD_total_100 : decode M_MD_total.2.1 100 = .ok (.lload 5, 2) := by decide +kernel
theorem d_MD_total_102 : decode M_MD_total.2.1 102 = .ok (.ldc2_w 238, 3) := by decide +kernel
theorem d_MD_total_105 : decode M_MD_total.2.1 105 = .ok (.iload_n 3, 1) := by decide +kernel
theorem d_MD_total_106 : decode M_MD_total.2.1 106 = .ok (.iload 4, 2) := by decide +kernel
theorem d_MD_total_108 : decode M_MD_total.2.1 108 = .ok (.invokevirtual 228, 3) := by decide +kernel
theorem d_MD_total_111 : decode M_MD_total.2.1 111 = .ok (.ifCond .eq 7, 3) := by decide +kernel
theorem d_MD_total_114 : decode M_MD_total.2.1 114 = .ok (.iconst 1, 1) := by decide +kernel
theorem d_MD_total_115 : decode M_MD_total.2.1 115 = .ok (.goto 4, 3) := by decide +kernel
theorem d_MD_total_118 : decode M_MD_total.2.1 118 = .ok (.iconst 0, 1) := by decide +kernel
theorem d_MD_total_119 : decode M_MD_total.2.1 119 = .ok (.ireturn, 1) := by decide +kernel
theorem d_MD_sizeErrors_0 : decode M_MD_sizeErrors.2.1 0 = .ok (.aload_n 0, 1) := by decide +kernel
theorem d_MD_sizeErrors_1 : decode M_MD_sizeErrors.2.1 1 = .ok (.getfield 201, 3) := by decide +kernel
theorem d_MD_sizeErrors_4 : decode M_MD_sizeErrors.2.1 4 = .ok (.ireturn, 1) := by decide +kernel
theorem d_MD_dataErrors_0 : decode M_MD_dataErrors.2.1 0 = .ok (.aload_n 0, 1) := by decide +kernel
theorem d_MD_dataErrors_1 : decode M_MD_dataErrors.2.1 1 = .ok (.getfield 208, 3) := by decide +kernel
theorem d_MD_dataErrors_4 : decode M_MD_dataErrors.2.1 4 = .ok (.ireturn, 1) := by decide +kernel
theorem d_LW_law_0 : decode M_LW_law.2.1 0 = .ok (.new 7, 3) := by decide +kernel
theorem d_LW_law_3 : decode M_LW_law.2.1 3 = .ok (.dup, 1) := by decide +kernel
theorem d_LW_law_4 : decode M_LW_law.2.1 4 = .ok (.invokespecial 9, 3) := by decide +kernel
theorem d_LW_law_7 : decode M_LW_law.2.1 7 = .ok (.astore_n 1, 1) := by decide +kernel
theorem d_LW_law_8 : decode M_LW_law.2.1 8 = .ok (.new 10, 3) := by decide +kernel
theorem d_LW_law_11 : decode M_LW_law.2.1 11 = .ok (.dup, 1) := by decide +kernel
theorem d_LW_law_12 : decode M_LW_law.2.1 12 = .ok (.invokespecial 12, 3) := by decide +kernel
theorem d_LW_law_15 : decode M_LW_law.2.1 15 = .ok (.astore_n 2, 1) := by decide +kernel
theorem d_LW_law_16 : decode M_LW_law.2.1 16 = .ok (.iconst 0, 1) := by decide +kernel
theorem d_LW_law_17 : decode M_LW_law.2.1 17 = .ok (.istore_n 3, 1) := by decide +kernel
theorem d_LW_law_18 : decode M_LW_law.2.1 18 = .ok (.iload_n 3, 1) := by decide +kernel
theorem d_LW_law_19 : decode M_LW_law.2.1 19 = .ok (.aload_n 0, 1) := by decide +kernel
theorem d_LW_law_20 : decode M_LW_law.2.1 20 = .ok (.arraylength, 1) := by decide +kernel
theorem d_LW_law_21 : decode M_LW_law.2.1 21 = .ok (.bipush 6, 2) := by decide +kernel
theorem d_LW_law_23 : decode M_LW_law.2.1 23 = .ok (.isub, 1) := by decide +kernel
theorem d_LW_law_24 : decode M_LW_law.2.1 24 = .ok (.if_icmp .gt 640, 3) := by decide +kernel
theorem d_LW_law_27 : decode M_LW_law.2.1 27 = .ok (.aload_n 0, 1) := by decide +kernel
theorem d_LW_law_28 : decode M_LW_law.2.1 28 = .ok (.iload_n 3, 1) := by decide +kernel
theorem d_LW_law_29 : decode M_LW_law.2.1 29 = .ok (.iaload, 1) := by decide +kernel
theorem d_LW_law_30 : decode M_LW_law.2.1 30 = .ok (.bipush 31, 2) := by decide +kernel
theorem d_LW_law_32 : decode M_LW_law.2.1 32 = .ok (.iand, 1) := by decide +kernel
theorem d_LW_law_33 : decode M_LW_law.2.1 33 = .ok (.tableswitch 625 0 16 #[83, 108, 119, 152, 165, 188, 211, 234, 267, 291, 334, 367, 430, 493, 546, 599, 612], 83) := by decide +kernel
theorem d_LW_law_116 : decode M_LW_law.2.1 116 = .ok (.aload_n 1, 1) := by decide +kernel
theorem d_LW_law_117 : decode M_LW_law.2.1 117 = .ok (.aload_n 0, 1) := by decide +kernel
theorem d_LW_law_118 : decode M_LW_law.2.1 118 = .ok (.iload_n 3, 1) := by decide +kernel
theorem d_LW_law_119 : decode M_LW_law.2.1 119 = .ok (.iconst 1, 1) := by decide +kernel
theorem d_LW_law_120 : decode M_LW_law.2.1 120 = .ok (.iadd, 1) := by decide +kernel
theorem d_LW_law_121 : decode M_LW_law.2.1 121 = .ok (.iaload, 1) := by decide +kernel
theorem d_LW_law_122 : decode M_LW_law.2.1 122 = .ok (.i2c, 1) := by decide +kernel
theorem d_LW_law_123 : decode M_LW_law.2.1 123 = .ok (.invokevirtual 13, 3) := by decide +kernel
theorem d_LW_law_126 : decode M_LW_law.2.1 126 = .ok (.aload_n 2, 1) := by decide +kernel
theorem d_LW_law_127 : decode M_LW_law.2.1 127 = .ok (.aload_n 0, 1) := by decide +kernel
theorem d_LW_law_128 : decode M_LW_law.2.1 128 = .ok (.iload_n 3, 1) := by decide +kernel
theorem d_LW_law_129 : decode M_LW_law.2.1 129 = .ok (.iconst 1, 1) := by decide +kernel
theorem d_LW_law_130 : decode M_LW_law.2.1 130 = .ok (.iadd, 1) := by decide +kernel
theorem d_LW_law_131 : decode M_LW_law.2.1 131 = .ok (.iaload, 1) := by decide +kernel
theorem d_LW_law_132 : decode M_LW_law.2.1 132 = .ok (.i2c, 1) := by decide +kernel
theorem d_LW_law_133 : decode M_LW_law.2.1 133 = .ok (.invokevirtual 17, 3) := by decide +kernel
theorem d_LW_law_136 : decode M_LW_law.2.1 136 = .ok (.if_icmp .eq 522, 3) := by decide +kernel
theorem d_LW_law_139 : decode M_LW_law.2.1 139 = .ok (.iconst 0, 1) := by decide +kernel
theorem d_LW_law_140 : decode M_LW_law.2.1 140 = .ok (.ireturn, 1) := by decide +kernel
theorem d_LW_law_141 : decode M_LW_law.2.1 141 = .ok (.aload_n 1, 1) := by decide +kernel
theorem d_LW_law_142 : decode M_LW_law.2.1 142 = .ok (.invokevirtual 18, 3) := by decide +kernel
theorem d_LW_law_145 : decode M_LW_law.2.1 145 = .ok (.aload_n 2, 1) := by decide +kernel
theorem d_LW_law_146 : decode M_LW_law.2.1 146 = .ok (.invokevirtual 21, 3) := by decide +kernel
theorem d_LW_law_149 : decode M_LW_law.2.1 149 = .ok (.goto 509, 3) := by decide +kernel
theorem d_LW_law_152 : decode M_LW_law.2.1 152 = .ok (.aload_n 1, 1) := by decide +kernel
theorem d_LW_law_153 : decode M_LW_law.2.1 153 = .ok (.aload_n 0, 1) := by decide +kernel
theorem d_LW_law_154 : decode M_LW_law.2.1 154 = .ok (.iload_n 3, 1) := by decide +kernel
theorem d_LW_law_155 : decode M_LW_law.2.1 155 = .ok (.iconst 1, 1) := by decide +kernel
theorem d_LW_law_156 : decode M_LW_law.2.1 156 = .ok (.iadd, 1) := by decide +kernel
theorem d_LW_law_157 : decode M_LW_law.2.1 157 = .ok (.iaload, 1) := by decide +kernel
theorem d_LW_law_158 : decode M_LW_law.2.1 158 = .ok (.aload_n 0, 1) := by decide +kernel
theorem d_LW_law_159 : decode M_LW_law.2.1 159 = .ok (.iload_n 3, 1) := by decide +kernel
theorem d_LW_law_160 : decode M_LW_law.2.1 160 = .ok (.iconst 2, 1) := by decide +kernel
theorem d_LW_law_161 : decode M_LW_law.2.1 161 = .ok (.iadd, 1) := by decide +kernel
theorem d_LW_law_162 : decode M_LW_law.2.1 162 = .ok (.iaload, 1) := by decide +kernel
theorem d_LW_law_163 : decode M_LW_law.2.1 163 = .ok (.invokevirtual 22, 3) := by decide +kernel
theorem d_LW_law_166 : decode M_LW_law.2.1 166 = .ok (.aload_n 2, 1) := by decide +kernel
theorem d_LW_law_167 : decode M_LW_law.2.1 167 = .ok (.aload_n 0, 1) := by decide +kernel
theorem d_LW_law_168 : decode M_LW_law.2.1 168 = .ok (.iload_n 3, 1) := by decide +kernel
theorem d_LW_law_169 : decode M_LW_law.2.1 169 = .ok (.iconst 1, 1) := by decide +kernel
theorem d_LW_law_170 : decode M_LW_law.2.1 170 = .ok (.iadd, 1) := by decide +kernel
theorem d_LW_law_171 : decode M_LW_law.2.1 171 = .ok (.iaload, 1) := by decide +kernel
theorem d_LW_law_172 : decode M_LW_law.2.1 172 = .ok (.aload_n 0, 1) := by decide +kernel
theorem d_LW_law_173 : decode M_LW_law.2.1 173 = .ok (.iload_n 3, 1) := by decide +kernel
theorem d_LW_law_174 : decode M_LW_law.2.1 174 = .ok (.iconst 2, 1) := by decide +kernel
theorem d_LW_law_175 : decode M_LW_law.2.1 175 = .ok (.iadd, 1) := by decide +kernel
theorem d_LW_law_176 : decode M_LW_law.2.1 176 = .ok (.iaload, 1) := by decide +kernel
theorem d_LW_law_177 : decode M_LW_law.2.1 177 = .ok (.invokevirtual 26, 3) := by decide +kernel
theorem d_LW_law_180 : decode M_LW_law.2.1 180 = .ok (.if_icmp .eq 478, 3) := by decide +kernel
theorem d_LW_law_183 : decode M_LW_law.2.1 183 = .ok (.iconst 0, 1) := by decide +kernel
theorem d_LW_law_184 : decode M_LW_law.2.1 184 = .ok (.ireturn, 1) := by decide +kernel
theorem d_LW_law_185 : decode M_LW_law.2.1 185 = .ok (.aload_n 1, 1) := by decide +kernel
theorem d_LW_law_186 : decode M_LW_law.2.1 186 = .ok (.invokevirtual 27, 3) := by decide +kernel
theorem d_LW_law_189 : decode M_LW_law.2.1 189 = .ok (.aload_n 2, 1) := by decide +kernel
theorem d_LW_law_190 : decode M_LW_law.2.1 190 = .ok (.invokevirtual 31, 3) := by decide +kernel
theorem d_LW_law_193 : decode M_LW_law.2.1 193 = .ok (.if_icmp .eq 465, 3) := by decide +kernel
theorem d_LW_law_196 : decode M_LW_law.2.1 196 = .ok (.iconst 0, 1) := by decide +kernel
theorem d_LW_law_197 : decode M_LW_law.2.1 197 = .ok (.ireturn, 1) := by decide +kernel
theorem d_LW_law_198 : decode M_LW_law.2.1 198 = .ok (.aload_n 1, 1) := by decide +kernel
theorem d_LW_law_199 : decode M_LW_law.2.1 199 = .ok (.aload_n 0, 1) := by decide +kernel
theorem d_LW_law_200 : decode M_LW_law.2.1 200 = .ok (.iload_n 3, 1) := by decide +kernel
theorem d_LW_law_201 : decode M_LW_law.2.1 201 = .ok (.iconst 1, 1) := by decide +kernel
theorem d_LW_law_202 : decode M_LW_law.2.1 202 = .ok (.iadd, 1) := by decide +kernel
theorem d_LW_law_203 : decode M_LW_law.2.1 203 = .ok (.iaload, 1) := by decide +kernel
theorem d_LW_law_204 : decode M_LW_law.2.1 204 = .ok (.invokevirtual 32, 3) := by decide +kernel
theorem d_LW_law_207 : decode M_LW_law.2.1 207 = .ok (.aload_n 2, 1) := by decide +kernel
theorem d_LW_law_208 : decode M_LW_law.2.1 208 = .ok (.aload_n 0, 1) := by decide +kernel
theorem d_LW_law_209 : decode M_LW_law.2.1 209 = .ok (.iload_n 3, 1) := by decide +kernel
theorem d_LW_law_210 : decode M_LW_law.2.1 210 = .ok (.iconst 1, 1) := by decide +kernel
theorem d_LW_law_211 : decode M_LW_law.2.1 211 = .ok (.iadd, 1) := by decide +kernel
theorem d_LW_law_212 : decode M_LW_law.2.1 212 = .ok (.iaload, 1) := by decide +kernel
theorem d_LW_law_213 : decode M_LW_law.2.1 213 = .ok (.invokevirtual 36, 3) := by decide +kernel
theorem d_LW_law_216 : decode M_LW_law.2.1 216 = .ok (.if_icmp .eq 442, 3) := by decide +kernel
theorem d_LW_law_219 : decode M_LW_law.2.1 219 = .ok (.iconst 0, 1) := by decide +kernel
theorem d_LW_law_220 : decode M_LW_law.2.1 220 = .ok (.ireturn, 1) := by decide +kernel
theorem d_LW_law_221 : decode M_LW_law.2.1 221 = .ok (.aload_n 1, 1) := by decide +kernel
theorem d_LW_law_222 : decode M_LW_law.2.1 222 = .ok (.aload_n 0, 1) := by decide +kernel
theorem d_LW_law_223 : decode M_LW_law.2.1 223 = .ok (.iload_n 3, 1) := by decide +kernel
theorem d_LW_law_224 : decode M_LW_law.2.1 224 = .ok (.iconst 1, 1) := by decide +kernel
theorem d_LW_law_225 : decode M_LW_law.2.1 225 = .ok (.iadd, 1) := by decide +kernel
theorem d_LW_law_226 : decode M_LW_law.2.1 226 = .ok (.iaload, 1) := by decide +kernel
theorem d_LW_law_227 : decode M_LW_law.2.1 227 = .ok (.invokevirtual 37, 3) := by decide +kernel
theorem d_LW_law_230 : decode M_LW_law.2.1 230 = .ok (.aload_n 2, 1) := by decide +kernel
theorem d_LW_law_231 : decode M_LW_law.2.1 231 = .ok (.aload_n 0, 1) := by decide +kernel
theorem d_LW_law_232 : decode M_LW_law.2.1 232 = .ok (.iload_n 3, 1) := by decide +kernel
theorem d_LW_law_233 : decode M_LW_law.2.1 233 = .ok (.iconst 1, 1) := by decide +kernel
theorem d_LW_law_234 : decode M_LW_law.2.1 234 = .ok (.iadd, 1) := by decide +kernel
theorem d_LW_law_235 : decode M_LW_law.2.1 235 = .ok (.iaload, 1) := by decide +kernel
theorem d_LW_law_236 : decode M_LW_law.2.1 236 = .ok (.invokevirtual 40, 3) := by decide +kernel
theorem d_LW_law_239 : decode M_LW_law.2.1 239 = .ok (.if_icmp .eq 419, 3) := by decide +kernel
theorem d_LW_law_242 : decode M_LW_law.2.1 242 = .ok (.iconst 0, 1) := by decide +kernel
theorem d_LW_law_243 : decode M_LW_law.2.1 243 = .ok (.ireturn, 1) := by decide +kernel
theorem d_LW_law_244 : decode M_LW_law.2.1 244 = .ok (.aload_n 1, 1) := by decide +kernel
theorem d_LW_law_245 : decode M_LW_law.2.1 245 = .ok (.aload_n 0, 1) := by decide +kernel
theorem d_LW_law_246 : decode M_LW_law.2.1 246 = .ok (.iload_n 3, 1) := by decide +kernel
theorem d_LW_law_247 : decode M_LW_law.2.1 247 = .ok (.iconst 1, 1) := by decide +kernel
theorem d_LW_law_248 : decode M_LW_law.2.1 248 = .ok (.iadd, 1) := by decide +kernel
theorem d_LW_law_249 : decode M_LW_law.2.1 249 = .ok (.iaload, 1) := by decide +kernel
theorem d_LW_law_250 : decode M_LW_law.2.1 250 = .ok (.invokevirtual 41, 3) := by decide +kernel
theorem d_LW_law_253 : decode M_LW_law.2.1 253 = .ok (.aload_n 2, 1) := by decide +kernel
theorem d_LW_law_254 : decode M_LW_law.2.1 254 = .ok (.aload_n 0, 1) := by decide +kernel
theorem d_LW_law_255 : decode M_LW_law.2.1 255 = .ok (.iload_n 3, 1) := by decide +kernel
theorem d_LW_law_256 : decode M_LW_law.2.1 256 = .ok (.iconst 1, 1) := by decide +kernel
theorem d_LW_law_257 : decode M_LW_law.2.1 257 = .ok (.iadd, 1) := by decide +kernel
theorem d_LW_law_258 : decode M_LW_law.2.1 258 = .ok (.iaload, 1) := by decide +kernel
theorem d_LW_law_259 : decode M_LW_law.2.1 259 = .ok (.invokevirtual 44, 3) := by decide +kernel
theorem d_LW_law_262 : decode M_LW_law.2.1 262 = .ok (.if_icmp .eq 396, 3) := by decide +kernel
theorem d_LW_law_265 : decode M_LW_law.2.1 265 = .ok (.iconst 0, 1) := by decide +kernel
theorem d_LW_law_266 : decode M_LW_law.2.1 266 = .ok (.ireturn, 1) := by decide +kernel
theorem d_LW_law_267 : decode M_LW_law.2.1 267 = .ok (.aload_n 1, 1) := by decide +kernel
theorem d_LW_law_268 : decode M_LW_law.2.1 268 = .ok (.aload_n 0, 1) := by decide +kernel
theorem d_LW_law_269 : decode M_LW_law.2.1 269 = .ok (.iload_n 3, 1) := by decide +kernel
theorem d_LW_law_270 : decode M_LW_law.2.1 270 = .ok (.iconst 1, 1) := by decide +kernel
theorem d_LW_law_271 : decode M_LW_law.2.1 271 = .ok (.iadd, 1) := by decide +kernel
theorem d_LW_law_272 : decode M_LW_law.2.1 272 = .ok (.iaload, 1) := by decide +kernel
theorem d_LW_law_273 : decode M_LW_law.2.1 273 = .ok (.aload_n 0, 1) := by decide +kernel
theorem d_LW_law_274 : decode M_LW_law.2.1 274 = .ok (.iload_n 3, 1) := by decide +kernel
theorem d_LW_law_275 : decode M_LW_law.2.1 275 = .ok (.iconst 2, 1) := by decide +kernel
theorem d_LW_law_276 : decode M_LW_law.2.1 276 = .ok (.iadd, 1) := by decide +kernel
theorem d_LW_law_277 : decode M_LW_law.2.1 277 = .ok (.iaload, 1) := by decide +kernel
theorem d_LW_law_278 : decode M_LW_law.2.1 278 = .ok (.invokevirtual 45, 3) := by decide +kernel
theorem d_LW_law_281 : decode M_LW_law.2.1 281 = .ok (.aload_n 2, 1) := by decide +kernel
theorem d_LW_law_282 : decode M_LW_law.2.1 282 = .ok (.aload_n 0, 1) := by decide +kernel
theorem d_LW_law_283 : decode M_LW_law.2.1 283 = .ok (.iload_n 3, 1) := by decide +kernel
theorem d_LW_law_284 : decode M_LW_law.2.1 284 = .ok (.iconst 1, 1) := by decide +kernel
theorem d_LW_law_285 : decode M_LW_law.2.1 285 = .ok (.iadd, 1) := by decide +kernel
theorem d_LW_law_286 : decode M_LW_law.2.1 286 = .ok (.iaload, 1) := by decide +kernel
theorem d_LW_law_287 : decode M_LW_law.2.1 287 = .ok (.aload_n 0, 1) := by decide +kernel
theorem d_LW_law_288 : decode M_LW_law.2.1 288 = .ok (.iload_n 3, 1) := by decide +kernel
theorem d_LW_law_289 : decode M_LW_law.2.1 289 = .ok (.iconst 2, 1) := by decide +kernel
theorem d_LW_law_290 : decode M_LW_law.2.1 290 = .ok (.iadd, 1) := by decide +kernel
theorem d_LW_law_291 : decode M_LW_law.2.1 291 = .ok (.iaload, 1) := by decide +kernel
theorem d_LW_law_292 : decode M_LW_law.2.1 292 = .ok (.invokevirtual 49, 3) := by decide +kernel
theorem d_LW_law_295 : decode M_LW_law.2.1 295 = .ok (.if_icmp .eq 363, 3) := by decide +kernel
theorem d_LW_law_298 : decode M_LW_law.2.1 298 = .ok (.iconst 0, 1) := by decide +kernel
theorem d_LW_law_299 : decode M_LW_law.2.1 299 = .ok (.ireturn, 1) := by decide +kernel
theorem d_LW_law_300 : decode M_LW_law.2.1 300 = .ok (.aload_n 1, 1) := by decide +kernel
theorem d_LW_law_301 : decode M_LW_law.2.1 301 = .ok (.aload_n 0, 1) := by decide +kernel
theorem d_LW_law_302 : decode M_LW_law.2.1 302 = .ok (.iload_n 3, 1) := by decide +kernel
theorem d_LW_law_303 : decode M_LW_law.2.1 303 = .ok (.iconst 1, 1) := by decide +kernel
theorem d_LW_law_304 : decode M_LW_law.2.1 304 = .ok (.iadd, 1) := by decide +kernel
theorem d_LW_law_305 : decode M_LW_law.2.1 305 = .ok (.iaload, 1) := by decide +kernel
theorem d_LW_law_306 : decode M_LW_law.2.1 306 = .ok (.invokevirtual 50, 3) := by decide +kernel
theorem d_LW_law_309 : decode M_LW_law.2.1 309 = .ok (.aload_n 2, 1) := by decide +kernel
theorem d_LW_law_310 : decode M_LW_law.2.1 310 = .ok (.aload_n 0, 1) := by decide +kernel
theorem d_LW_law_311 : decode M_LW_law.2.1 311 = .ok (.iload_n 3, 1) := by decide +kernel
theorem d_LW_law_312 : decode M_LW_law.2.1 312 = .ok (.iconst 1, 1) := by decide +kernel
theorem d_LW_law_313 : decode M_LW_law.2.1 313 = .ok (.iadd, 1) := by decide +kernel
theorem d_LW_law_314 : decode M_LW_law.2.1 314 = .ok (.iaload, 1) := by decide +kernel
theorem d_LW_law_315 : decode M_LW_law.2.1 315 = .ok (.invokevirtual 54, 3) := by decide +kernel
theorem d_LW_law_318 : decode M_LW_law.2.1 318 = .ok (.lcmp, 1) := by decide +kernel
theorem d_LW_law_319 : decode M_LW_law.2.1 319 = .ok (.ifCond .eq 339, 3) := by decide +kernel
theorem d_LW_law_322 : decode M_LW_law.2.1 322 = .ok (.iconst 0, 1) := by decide +kernel
theorem d_LW_law_323 : decode M_LW_law.2.1 323 = .ok (.ireturn, 1) := by decide +kernel
theorem d_LW_law_324 : decode M_LW_law.2.1 324 = .ok (.aload_n 1, 1) := by decide +kernel
theorem d_LW_law_325 : decode M_LW_law.2.1 325 = .ok (.aload_n 0, 1) := by decide +kernel
theorem d_LW_law_326 : decode M_LW_law.2.1 326 = .ok (.iload_n 3, 1) := by decide +kernel
theorem d_LW_law_327 : decode M_LW_law.2.1 327 = .ok (.iconst 1, 1) := by decide +kernel
theorem d_LW_law_328 : decode M_LW_law.2.1 328 = .ok (.iadd, 1) := by decide +kernel
theorem d_LW_law_329 : decode M_LW_law.2.1 329 = .ok (.iaload, 1) := by decide +kernel
theorem d_LW_law_330 : decode M_LW_law.2.1 330 = .ok (.aload_n 0, 1) := by decide +kernel
theorem d_LW_law_331 : decode M_LW_law.2.1 331 = .ok (.iload_n 3, 1) := by decide +kernel
theorem d_LW_law_332 : decode M_LW_law.2.1 332 = .ok (.iconst 2, 1) := by decide +kernel
theorem d_LW_law_333 : decode M_LW_law.2.1 333 = .ok (.iadd, 1) := by decide +kernel
theorem d_LW_law_334 : decode M_LW_law.2.1 334 = .ok (.iaload, 1) := by decide +kernel
theorem d_LW_law_335 : decode M_LW_law.2.1 335 = .ok (.aload_n 0, 1) := by decide +kernel
theorem d_LW_law_336 : decode M_LW_law.2.1 336 = .ok (.iload_n 3, 1) := by decide +kernel
theorem d_LW_law_337 : decode M_LW_law.2.1 337 = .ok (.iconst 3, 1) := by decide +kernel
theorem d_LW_law_338 : decode M_LW_law.2.1 338 = .ok (.iadd, 1) := by decide +kernel
theorem d_LW_law_339 : decode M_LW_law.2.1 339 = .ok (.iaload, 1) := by decide +kernel
theorem d_LW_law_340 : decode M_LW_law.2.1 340 = .ok (.invokevirtual 55, 3) := by decide +kernel
theorem d_LW_law_343 : decode M_LW_law.2.1 343 = .ok (.aload_n 2, 1) := by decide +kernel
theorem d_LW_law_344 : decode M_LW_law.2.1 344 = .ok (.aload_n 0, 1) := by decide +kernel
theorem d_LW_law_345 : decode M_LW_law.2.1 345 = .ok (.iload_n 3, 1) := by decide +kernel
theorem d_LW_law_346 : decode M_LW_law.2.1 346 = .ok (.iconst 1, 1) := by decide +kernel
theorem d_LW_law_347 : decode M_LW_law.2.1 347 = .ok (.iadd, 1) := by decide +kernel
theorem d_LW_law_348 : decode M_LW_law.2.1 348 = .ok (.iaload, 1) := by decide +kernel
theorem d_LW_law_349 : decode M_LW_law.2.1 349 = .ok (.aload_n 0, 1) := by decide +kernel
theorem d_LW_law_350 : decode M_LW_law.2.1 350 = .ok (.iload_n 3, 1) := by decide +kernel
theorem d_LW_law_351 : decode M_LW_law.2.1 351 = .ok (.iconst 2, 1) := by decide +kernel
theorem d_LW_law_352 : decode M_LW_law.2.1 352 = .ok (.iadd, 1) := by decide +kernel
theorem d_LW_law_353 : decode M_LW_law.2.1 353 = .ok (.iaload, 1) := by decide +kernel
theorem d_LW_law_354 : decode M_LW_law.2.1 354 = .ok (.aload_n 0, 1) := by decide +kernel
theorem d_LW_law_355 : decode M_LW_law.2.1 355 = .ok (.iload_n 3, 1) := by decide +kernel
theorem d_LW_law_356 : decode M_LW_law.2.1 356 = .ok (.iconst 3, 1) := by decide +kernel
theorem d_LW_law_357 : decode M_LW_law.2.1 357 = .ok (.iadd, 1) := by decide +kernel
theorem d_LW_law_358 : decode M_LW_law.2.1 358 = .ok (.iaload, 1) := by decide +kernel
theorem d_LW_law_359 : decode M_LW_law.2.1 359 = .ok (.invokevirtual 59, 3) := by decide +kernel
theorem d_LW_law_362 : decode M_LW_law.2.1 362 = .ok (.if_icmp .eq 296, 3) := by decide +kernel
theorem d_LW_law_365 : decode M_LW_law.2.1 365 = .ok (.iconst 0, 1) := by decide +kernel
theorem d_LW_law_366 : decode M_LW_law.2.1 366 = .ok (.ireturn, 1) := by decide +kernel
theorem d_LW_law_367 : decode M_LW_law.2.1 367 = .ok (.aload_n 1, 1) := by decide +kernel
theorem d_LW_law_368 : decode M_LW_law.2.1 368 = .ok (.aload_n 0, 1) := by decide +kernel
theorem d_LW_law_369 : decode M_LW_law.2.1 369 = .ok (.iload_n 3, 1) := by decide +kernel
theorem d_LW_law_370 : decode M_LW_law.2.1 370 = .ok (.iconst 1, 1) := by decide +kernel
theorem d_LW_law_371 : decode M_LW_law.2.1 371 = .ok (.iadd, 1) := by decide +kernel
theorem d_LW_law_372 : decode M_LW_law.2.1 372 = .ok (.iaload, 1) := by decide +kernel
theorem d_LW_law_373 : decode M_LW_law.2.1 373 = .ok (.aload_n 0, 1) := by decide +kernel
theorem d_LW_law_374 : decode M_LW_law.2.1 374 = .ok (.iload_n 3, 1) := by decide +kernel
theorem d_LW_law_375 : decode M_LW_law.2.1 375 = .ok (.iconst 2, 1) := by decide +kernel
theorem d_LW_law_376 : decode M_LW_law.2.1 376 = .ok (.iadd, 1) := by decide +kernel
theorem d_LW_law_377 : decode M_LW_law.2.1 377 = .ok (.iaload, 1) := by decide +kernel
theorem d_LW_law_378 : decode M_LW_law.2.1 378 = .ok (.invokevirtual 60, 3) := by decide +kernel
theorem d_LW_law_381 : decode M_LW_law.2.1 381 = .ok (.aload_n 2, 1) := by decide +kernel
theorem d_LW_law_382 : decode M_LW_law.2.1 382 = .ok (.aload_n 0, 1) := by decide +kernel
theorem d_LW_law_383 : decode M_LW_law.2.1 383 = .ok (.iload_n 3, 1) := by decide +kernel
theorem d_LW_law_384 : decode M_LW_law.2.1 384 = .ok (.iconst 1, 1) := by decide +kernel
theorem d_LW_law_385 : decode M_LW_law.2.1 385 = .ok (.iadd, 1) := by decide +kernel
theorem d_LW_law_386 : decode M_LW_law.2.1 386 = .ok (.iaload, 1) := by decide +kernel
theorem d_LW_law_387 : decode M_LW_law.2.1 387 = .ok (.aload_n 0, 1) := by decide +kernel
theorem d_LW_law_388 : decode M_LW_law.2.1 388 = .ok (.iload_n 3, 1) := by decide +kernel
theorem d_LW_law_389 : decode M_LW_law.2.1 389 = .ok (.iconst 2, 1) := by decide +kernel
theorem d_LW_law_390 : decode M_LW_law.2.1 390 = .ok (.iadd, 1) := by decide +kernel
theorem d_LW_law_391 : decode M_LW_law.2.1 391 = .ok (.iaload, 1) := by decide +kernel
theorem d_LW_law_392 : decode M_LW_law.2.1 392 = .ok (.invokevirtual 63, 3) := by decide +kernel
theorem d_LW_law_395 : decode M_LW_law.2.1 395 = .ok (.if_icmp .eq 263, 3) := by decide +kernel
theorem d_LW_law_398 : decode M_LW_law.2.1 398 = .ok (.iconst 0, 1) := by decide +kernel
theorem d_LW_law_399 : decode M_LW_law.2.1 399 = .ok (.ireturn, 1) := by decide +kernel
theorem d_LW_law_400 : decode M_LW_law.2.1 400 = .ok (.aload_n 1, 1) := by decide +kernel
theorem d_LW_law_401 : decode M_LW_law.2.1 401 = .ok (.aload_n 0, 1) := by decide +kernel
theorem d_LW_law_402 : decode M_LW_law.2.1 402 = .ok (.iload_n 3, 1) := by decide +kernel
theorem d_LW_law_403 : decode M_LW_law.2.1 403 = .ok (.iconst 1, 1) := by decide +kernel
theorem d_LW_law_404 : decode M_LW_law.2.1 404 = .ok (.iadd, 1) := by decide +kernel
theorem d_LW_law_405 : decode M_LW_law.2.1 405 = .ok (.iaload, 1) := by decide +kernel
theorem d_LW_law_406 : decode M_LW_law.2.1 406 = .ok (.aload_n 0, 1) := by decide +kernel
theorem d_LW_law_407 : decode M_LW_law.2.1 407 = .ok (.iload_n 3, 1) := by decide +kernel
theorem d_LW_law_408 : decode M_LW_law.2.1 408 = .ok (.iconst 2, 1) := by decide +kernel
theorem d_LW_law_409 : decode M_LW_law.2.1 409 = .ok (.iadd, 1) := by decide +kernel
theorem d_LW_law_410 : decode M_LW_law.2.1 410 = .ok (.iaload, 1) := by decide +kernel
theorem d_LW_law_411 : decode M_LW_law.2.1 411 = .ok (.aload_n 0, 1) := by decide +kernel
theorem d_LW_law_412 : decode M_LW_law.2.1 412 = .ok (.iload_n 3, 1) := by decide +kernel
theorem d_LW_law_413 : decode M_LW_law.2.1 413 = .ok (.iconst 3, 1) := by decide +kernel
theorem d_LW_law_414 : decode M_LW_law.2.1 414 = .ok (.iadd, 1) := by decide +kernel
theorem d_LW_law_415 : decode M_LW_law.2.1 415 = .ok (.iaload, 1) := by decide +kernel
theorem d_LW_law_416 : decode M_LW_law.2.1 416 = .ok (.aload_n 0, 1) := by decide +kernel
theorem d_LW_law_417 : decode M_LW_law.2.1 417 = .ok (.iload_n 3, 1) := by decide +kernel
theorem d_LW_law_418 : decode M_LW_law.2.1 418 = .ok (.iconst 4, 1) := by decide +kernel
theorem d_LW_law_419 : decode M_LW_law.2.1 419 = .ok (.iadd, 1) := by decide +kernel
theorem d_LW_law_420 : decode M_LW_law.2.1 420 = .ok (.iaload, 1) := by decide +kernel
theorem d_LW_law_421 : decode M_LW_law.2.1 421 = .ok (.aload_n 0, 1) := by decide +kernel
theorem d_LW_law_422 : decode M_LW_law.2.1 422 = .ok (.iload_n 3, 1) := by decide +kernel
theorem d_LW_law_423 : decode M_LW_law.2.1 423 = .ok (.iconst 5, 1) := by decide +kernel
theorem d_LW_law_424 : decode M_LW_law.2.1 424 = .ok (.iadd, 1) := by decide +kernel
theorem d_LW_law_425 : decode M_LW_law.2.1 425 = .ok (.iaload, 1) := by decide +kernel
theorem d_LW_law_426 : decode M_LW_law.2.1 426 = .ok (.invokevirtual 64, 3) := by decide +kernel
theorem d_LW_law_429 : decode M_LW_law.2.1 429 = .ok (.aload_n 2, 1) := by decide +kernel
theorem d_LW_law_430 : decode M_LW_law.2.1 430 = .ok (.aload_n 0, 1) := by decide +kernel
theorem d_LW_law_431 : decode M_LW_law.2.1 431 = .ok (.iload_n 3, 1) := by decide +kernel
theorem d_LW_law_432 : decode M_LW_law.2.1 432 = .ok (.iconst 1, 1) := by decide +kernel
theorem d_LW_law_433 : decode M_LW_law.2.1 433 = .ok (.iadd, 1) := by decide +kernel
theorem d_LW_law_434 : decode M_LW_law.2.1 434 = .ok (.iaload, 1) := by decide +kernel
theorem d_LW_law_435 : decode M_LW_law.2.1 435 = .ok (.aload_n 0, 1) := by decide +kernel
theorem d_LW_law_436 : decode M_LW_law.2.1 436 = .ok (.iload_n 3, 1) := by decide +kernel
theorem d_LW_law_437 : decode M_LW_law.2.1 437 = .ok (.iconst 2, 1) := by decide +kernel
theorem d_LW_law_438 : decode M_LW_law.2.1 438 = .ok (.iadd, 1) := by decide +kernel
theorem d_LW_law_439 : decode M_LW_law.2.1 439 = .ok (.iaload, 1) := by decide +kernel
theorem d_LW_law_440 : decode M_LW_law.2.1 440 = .ok (.aload_n 0, 1) := by decide +kernel
theorem d_LW_law_441 : decode M_LW_law.2.1 441 = .ok (.iload_n 3, 1) := by decide +kernel
theorem d_LW_law_442 : decode M_LW_law.2.1 442 = .ok (.iconst 3, 1) := by decide +kernel
theorem d_LW_law_443 : decode M_LW_law.2.1 443 = .ok (.iadd, 1) := by decide +kernel
theorem d_LW_law_444 : decode M_LW_law.2.1 444 = .ok (.iaload, 1) := by decide +kernel
theorem d_LW_law_445 : decode M_LW_law.2.1 445 = .ok (.aload_n 0, 1) := by decide +kernel
theorem d_LW_law_446 : decode M_LW_law.2.1 446 = .ok (.iload_n 3, 1) := by decide +kernel
theorem d_LW_law_447 : decode M_LW_law.2.1 447 = .ok (.iconst 4, 1) := by decide +kernel
theorem d_LW_law_448 : decode M_LW_law.2.1 448 = .ok (.iadd, 1) := by decide +kernel
theorem d_LW_law_449 : decode M_LW_law.2.1 449 = .ok (.iaload, 1) := by decide +kernel
theorem d_LW_law_450 : decode M_LW_law.2.1 450 = .ok (.aload_n 0, 1) := by decide +kernel
theorem d_LW_law_451 : decode M_LW_law.2.1 451 = .ok (.iload_n 3, 1) := by decide +kernel
theorem d_LW_law_452 : decode M_LW_law.2.1 452 = .ok (.iconst 5, 1) := by decide +kernel
theorem d_LW_law_453 : decode M_LW_law.2.1 453 = .ok (.iadd, 1) := by decide +kernel
theorem d_LW_law_454 : decode M_LW_law.2.1 454 = .ok (.iaload, 1) := by decide +kernel
theorem d_LW_law_455 : decode M_LW_law.2.1 455 = .ok (.invokevirtual 68, 3) := by decide +kernel
theorem d_LW_law_458 : decode M_LW_law.2.1 458 = .ok (.if_icmp .eq 200, 3) := by decide +kernel
theorem d_LW_law_461 : decode M_LW_law.2.1 461 = .ok (.iconst 0, 1) := by decide +kernel
theorem d_LW_law_462 : decode M_LW_law.2.1 462 = .ok (.ireturn, 1) := by decide +kernel
theorem d_LW_law_463 : decode M_LW_law.2.1 463 = .ok (.aload_n 1, 1) := by decide +kernel
theorem d_LW_law_464 : decode M_LW_law.2.1 464 = .ok (.aload_n 0, 1) := by decide +kernel
theorem d_LW_law_465 : decode M_LW_law.2.1 465 = .ok (.iload_n 3, 1) := by decide +kernel
theorem d_LW_law_466 : decode M_LW_law.2.1 466 = .ok (.iconst 1, 1) := by decide +kernel
theorem d_LW_law_467 : decode M_LW_law.2.1 467 = .ok (.iadd, 1) := by decide +kernel
theorem d_LW_law_468 : decode M_LW_law.2.1 468 = .ok (.iaload, 1) := by decide +kernel
theorem d_LW_law_469 : decode M_LW_law.2.1 469 = .ok (.aload_n 0, 1) := by decide +kernel
theorem d_LW_law_470 : decode M_LW_law.2.1 470 = .ok (.iload_n 3, 1) := by decide +kernel
theorem d_LW_law_471 : decode M_LW_law.2.1 471 = .ok (.iconst 2, 1) := by decide +kernel
theorem d_LW_law_472 : decode M_LW_law.2.1 472 = .ok (.iadd, 1) := by decide +kernel
theorem d_LW_law_473 : decode M_LW_law.2.1 473 = .ok (.iaload, 1) := by decide +kernel
theorem d_LW_law_474 : decode M_LW_law.2.1 474 = .ok (.aload_n 0, 1) := by decide +kernel
theorem d_LW_law_475 : decode M_LW_law.2.1 475 = .ok (.iload_n 3, 1) := by decide +kernel
theorem d_LW_law_476 : decode M_LW_law.2.1 476 = .ok (.iconst 3, 1) := by decide +kernel
theorem d_LW_law_477 : decode M_LW_law.2.1 477 = .ok (.iadd, 1) := by decide +kernel
theorem d_LW_law_478 : decode M_LW_law.2.1 478 = .ok (.iaload, 1) := by decide +kernel
theorem d_LW_law_479 : decode M_LW_law.2.1 479 = .ok (.aload_n 0, 1) := by decide +kernel
theorem d_LW_law_480 : decode M_LW_law.2.1 480 = .ok (.iload_n 3, 1) := by decide +kernel
theorem d_LW_law_481 : decode M_LW_law.2.1 481 = .ok (.iconst 4, 1) := by decide +kernel
theorem d_LW_law_482 : decode M_LW_law.2.1 482 = .ok (.iadd, 1) := by decide +kernel
theorem d_LW_law_483 : decode M_LW_law.2.1 483 = .ok (.iaload, 1) := by decide +kernel
theorem d_LW_law_484 : decode M_LW_law.2.1 484 = .ok (.aload_n 0, 1) := by decide +kernel
theorem d_LW_law_485 : decode M_LW_law.2.1 485 = .ok (.iload_n 3, 1) := by decide +kernel
theorem d_LW_law_486 : decode M_LW_law.2.1 486 = .ok (.iconst 5, 1) := by decide +kernel
theorem d_LW_law_487 : decode M_LW_law.2.1 487 = .ok (.iadd, 1) := by decide +kernel
theorem d_LW_law_488 : decode M_LW_law.2.1 488 = .ok (.iaload, 1) := by decide +kernel
theorem d_LW_law_489 : decode M_LW_law.2.1 489 = .ok (.invokevirtual 69, 3) := by decide +kernel
theorem d_LW_law_492 : decode M_LW_law.2.1 492 = .ok (.aload_n 2, 1) := by decide +kernel
theorem d_LW_law_493 : decode M_LW_law.2.1 493 = .ok (.aload_n 0, 1) := by decide +kernel
theorem d_LW_law_494 : decode M_LW_law.2.1 494 = .ok (.iload_n 3, 1) := by decide +kernel
theorem d_LW_law_495 : decode M_LW_law.2.1 495 = .ok (.iconst 1, 1) := by decide +kernel
theorem d_LW_law_496 : decode M_LW_law.2.1 496 = .ok (.iadd, 1) := by decide +kernel
theorem d_LW_law_497 : decode M_LW_law.2.1 497 = .ok (.iaload, 1) := by decide +kernel
theorem d_LW_law_498 : decode M_LW_law.2.1 498 = .ok (.aload_n 0, 1) := by decide +kernel
theorem d_LW_law_499 : decode M_LW_law.2.1 499 = .ok (.iload_n 3, 1) := by decide +kernel
theorem d_LW_law_500 : decode M_LW_law.2.1 500 = .ok (.iconst 2, 1) := by decide +kernel
theorem d_LW_law_501 : decode M_LW_law.2.1 501 = .ok (.iadd, 1) := by decide +kernel
theorem d_LW_law_502 : decode M_LW_law.2.1 502 = .ok (.iaload, 1) := by decide +kernel
theorem d_LW_law_503 : decode M_LW_law.2.1 503 = .ok (.aload_n 0, 1) := by decide +kernel
theorem d_LW_law_504 : decode M_LW_law.2.1 504 = .ok (.iload_n 3, 1) := by decide +kernel
theorem d_LW_law_505 : decode M_LW_law.2.1 505 = .ok (.iconst 3, 1) := by decide +kernel
theorem d_LW_law_506 : decode M_LW_law.2.1 506 = .ok (.iadd, 1) := by decide +kernel
theorem d_LW_law_507 : decode M_LW_law.2.1 507 = .ok (.iaload, 1) := by decide +kernel
theorem d_LW_law_508 : decode M_LW_law.2.1 508 = .ok (.aload_n 0, 1) := by decide +kernel
theorem d_LW_law_509 : decode M_LW_law.2.1 509 = .ok (.iload_n 3, 1) := by decide +kernel
theorem d_LW_law_510 : decode M_LW_law.2.1 510 = .ok (.iconst 4, 1) := by decide +kernel
theorem d_LW_law_511 : decode M_LW_law.2.1 511 = .ok (.iadd, 1) := by decide +kernel
theorem d_LW_law_512 : decode M_LW_law.2.1 512 = .ok (.iaload, 1) := by decide +kernel
theorem d_LW_law_513 : decode M_LW_law.2.1 513 = .ok (.aload_n 0, 1) := by decide +kernel
theorem d_LW_law_514 : decode M_LW_law.2.1 514 = .ok (.iload_n 3, 1) := by decide +kernel
theorem d_LW_law_515 : decode M_LW_law.2.1 515 = .ok (.iconst 5, 1) := by decide +kernel
theorem d_LW_law_516 : decode M_LW_law.2.1 516 = .ok (.iadd, 1) := by decide +kernel
theorem d_LW_law_517 : decode M_LW_law.2.1 517 = .ok (.iaload, 1) := by decide +kernel
theorem d_LW_law_518 : decode M_LW_law.2.1 518 = .ok (.invokevirtual 72, 3) := by decide +kernel
theorem d_LW_law_521 : decode M_LW_law.2.1 521 = .ok (.if_icmp .eq 137, 3) := by decide +kernel
theorem d_LW_law_524 : decode M_LW_law.2.1 524 = .ok (.iconst 0, 1) := by decide +kernel
theorem d_LW_law_525 : decode M_LW_law.2.1 525 = .ok (.ireturn, 1) := by decide +kernel
theorem d_LW_law_526 : decode M_LW_law.2.1 526 = .ok (.aload_n 1, 1) := by decide +kernel
theorem d_LW_law_527 : decode M_LW_law.2.1 527 = .ok (.aload_n 0, 1) := by decide +kernel
theorem d_LW_law_528 : decode M_LW_law.2.1 528 = .ok (.iload_n 3, 1) := by decide +kernel
theorem d_LW_law_529 : decode M_LW_law.2.1 529 = .ok (.iconst 1, 1) := by decide +kernel
theorem d_LW_law_530 : decode M_LW_law.2.1 530 = .ok (.iadd, 1) := by decide +kernel
theorem d_LW_law_531 : decode M_LW_law.2.1 531 = .ok (.iaload, 1) := by decide +kernel
theorem d_LW_law_532 : decode M_LW_law.2.1 532 = .ok (.aload_n 0, 1) := by decide +kernel
theorem d_LW_law_533 : decode M_LW_law.2.1 533 = .ok (.iload_n 3, 1) := by decide +kernel
theorem d_LW_law_534 : decode M_LW_law.2.1 534 = .ok (.iconst 2, 1) := by decide +kernel
theorem d_LW_law_535 : decode M_LW_law.2.1 535 = .ok (.iadd, 1) := by decide +kernel
theorem d_LW_law_536 : decode M_LW_law.2.1 536 = .ok (.iaload, 1) := by decide +kernel
theorem d_LW_law_537 : decode M_LW_law.2.1 537 = .ok (.aload_n 0, 1) := by decide +kernel
theorem d_LW_law_538 : decode M_LW_law.2.1 538 = .ok (.iload_n 3, 1) := by decide +kernel
theorem d_LW_law_539 : decode M_LW_law.2.1 539 = .ok (.iconst 3, 1) := by decide +kernel
theorem d_LW_law_540 : decode M_LW_law.2.1 540 = .ok (.iadd, 1) := by decide +kernel
theorem d_LW_law_541 : decode M_LW_law.2.1 541 = .ok (.iaload, 1) := by decide +kernel
theorem d_LW_law_542 : decode M_LW_law.2.1 542 = .ok (.aload_n 0, 1) := by decide +kernel
theorem d_LW_law_543 : decode M_LW_law.2.1 543 = .ok (.iload_n 3, 1) := by decide +kernel
theorem d_LW_law_544 : decode M_LW_law.2.1 544 = .ok (.iconst 4, 1) := by decide +kernel
theorem d_LW_law_545 : decode M_LW_law.2.1 545 = .ok (.iadd, 1) := by decide +kernel
theorem d_LW_law_546 : decode M_LW_law.2.1 546 = .ok (.iaload, 1) := by decide +kernel
theorem d_LW_law_547 : decode M_LW_law.2.1 547 = .ok (.invokevirtual 73, 3) := by decide +kernel
theorem d_LW_law_550 : decode M_LW_law.2.1 550 = .ok (.aload_n 2, 1) := by decide +kernel
theorem d_LW_law_551 : decode M_LW_law.2.1 551 = .ok (.aload_n 0, 1) := by decide +kernel
theorem d_LW_law_552 : decode M_LW_law.2.1 552 = .ok (.iload_n 3, 1) := by decide +kernel
theorem d_LW_law_553 : decode M_LW_law.2.1 553 = .ok (.iconst 1, 1) := by decide +kernel
theorem d_LW_law_554 : decode M_LW_law.2.1 554 = .ok (.iadd, 1) := by decide +kernel
theorem d_LW_law_555 : decode M_LW_law.2.1 555 = .ok (.iaload, 1) := by decide +kernel
theorem d_LW_law_556 : decode M_LW_law.2.1 556 = .ok (.aload_n 0, 1) := by decide +kernel
theorem d_LW_law_557 : decode M_LW_law.2.1 557 = .ok (.iload_n 3, 1) := by decide +kernel
theorem d_LW_law_558 : decode M_LW_law.2.1 558 = .ok (.iconst 2, 1) := by decide +kernel
theorem d_LW_law_559 : decode M_LW_law.2.1 559 = .ok (.iadd, 1) := by decide +kernel
theorem d_LW_law_560 : decode M_LW_law.2.1 560 = .ok (.iaload, 1) := by decide +kernel
theorem d_LW_law_561 : decode M_LW_law.2.1 561 = .ok (.aload_n 0, 1) := by decide +kernel
theorem d_LW_law_562 : decode M_LW_law.2.1 562 = .ok (.iload_n 3, 1) := by decide +kernel
theorem d_LW_law_563 : decode M_LW_law.2.1 563 = .ok (.iconst 3, 1) := by decide +kernel
theorem d_LW_law_564 : decode M_LW_law.2.1 564 = .ok (.iadd, 1) := by decide +kernel
theorem d_LW_law_565 : decode M_LW_law.2.1 565 = .ok (.iaload, 1) := by decide +kernel
theorem d_LW_law_566 : decode M_LW_law.2.1 566 = .ok (.aload_n 0, 1) := by decide +kernel
theorem d_LW_law_567 : decode M_LW_law.2.1 567 = .ok (.iload_n 3, 1) := by decide +kernel
theorem d_LW_law_568 : decode M_LW_law.2.1 568 = .ok (.iconst 4, 1) := by decide +kernel
theorem d_LW_law_569 : decode M_LW_law.2.1 569 = .ok (.iadd, 1) := by decide +kernel
theorem d_LW_law_570 : decode M_LW_law.2.1 570 = .ok (.iaload, 1) := by decide +kernel
theorem d_LW_law_571 : decode M_LW_law.2.1 571 = .ok (.invokevirtual 77, 3) := by decide +kernel
theorem d_LW_law_574 : decode M_LW_law.2.1 574 = .ok (.if_icmp .eq 84, 3) := by decide +kernel
theorem d_LW_law_577 : decode M_LW_law.2.1 577 = .ok (.iconst 0, 1) := by decide +kernel
theorem d_LW_law_578 : decode M_LW_law.2.1 578 = .ok (.ireturn, 1) := by decide +kernel
theorem d_LW_law_579 : decode M_LW_law.2.1 579 = .ok (.aload_n 1, 1) := by decide +kernel
theorem d_LW_law_580 : decode M_LW_law.2.1 580 = .ok (.aload_n 0, 1) := by decide +kernel
theorem d_LW_law_581 : decode M_LW_law.2.1 581 = .ok (.iload_n 3, 1) := by decide +kernel
theorem d_LW_law_582 : decode M_LW_law.2.1 582 = .ok (.iconst 1, 1) := by decide +kernel
theorem d_LW_law_583 : decode M_LW_law.2.1 583 = .ok (.iadd, 1) := by decide +kernel
theorem d_LW_law_584 : decode M_LW_law.2.1 584 = .ok (.iaload, 1) := by decide +kernel
theorem d_LW_law_585 : decode M_LW_law.2.1 585 = .ok (.aload_n 0, 1) := by decide +kernel
theorem d_LW_law_586 : decode M_LW_law.2.1 586 = .ok (.iload_n 3, 1) := by decide +kernel
theorem d_LW_law_587 : decode M_LW_law.2.1 587 = .ok (.iconst 2, 1) := by decide +kernel
theorem d_LW_law_588 : decode M_LW_law.2.1 588 = .ok (.iadd, 1) := by decide +kernel
theorem d_LW_law_589 : decode M_LW_law.2.1 589 = .ok (.iaload, 1) := by decide +kernel
theorem d_LW_law_590 : decode M_LW_law.2.1 590 = .ok (.aload_n 0, 1) := by decide +kernel
theorem d_LW_law_591 : decode M_LW_law.2.1 591 = .ok (.iload_n 3, 1) := by decide +kernel
theorem d_LW_law_592 : decode M_LW_law.2.1 592 = .ok (.iconst 3, 1) := by decide +kernel
theorem d_LW_law_593 : decode M_LW_law.2.1 593 = .ok (.iadd, 1) := by decide +kernel
theorem d_LW_law_594 : decode M_LW_law.2.1 594 = .ok (.iaload, 1) := by decide +kernel
theorem d_LW_law_595 : decode M_LW_law.2.1 595 = .ok (.aload_n 0, 1) := by decide +kernel
theorem d_LW_law_596 : decode M_LW_law.2.1 596 = .ok (.iload_n 3, 1) := by decide +kernel
theorem d_LW_law_597 : decode M_LW_law.2.1 597 = .ok (.iconst 4, 1) := by decide +kernel
theorem d_LW_law_598 : decode M_LW_law.2.1 598 = .ok (.iadd, 1) := by decide +kernel
theorem d_LW_law_599 : decode M_LW_law.2.1 599 = .ok (.iaload, 1) := by decide +kernel
theorem d_LW_law_600 : decode M_LW_law.2.1 600 = .ok (.invokevirtual 78, 3) := by decide +kernel
theorem d_LW_law_603 : decode M_LW_law.2.1 603 = .ok (.aload_n 2, 1) := by decide +kernel
theorem d_LW_law_604 : decode M_LW_law.2.1 604 = .ok (.aload_n 0, 1) := by decide +kernel
theorem d_LW_law_605 : decode M_LW_law.2.1 605 = .ok (.iload_n 3, 1) := by decide +kernel
theorem d_LW_law_606 : decode M_LW_law.2.1 606 = .ok (.iconst 1, 1) := by decide +kernel
theorem d_LW_law_607 : decode M_LW_law.2.1 607 = .ok (.iadd, 1) := by decide +kernel
theorem d_LW_law_608 : decode M_LW_law.2.1 608 = .ok (.iaload, 1) := by decide +kernel
theorem d_LW_law_609 : decode M_LW_law.2.1 609 = .ok (.aload_n 0, 1) := by decide +kernel
theorem d_LW_law_610 : decode M_LW_law.2.1 610 = .ok (.iload_n 3, 1) := by decide +kernel
theorem d_LW_law_611 : decode M_LW_law.2.1 611 = .ok (.iconst 2, 1) := by decide +kernel
theorem d_LW_law_612 : decode M_LW_law.2.1 612 = .ok (.iadd, 1) := by decide +kernel
theorem d_LW_law_613 : decode M_LW_law.2.1 613 = .ok (.iaload, 1) := by decide +kernel
theorem d_LW_law_614 : decode M_LW_law.2.1 614 = .ok (.aload_n 0, 1) := by decide +kernel
theorem d_LW_law_615 : decode M_LW_law.2.1 615 = .ok (.iload_n 3, 1) := by decide +kernel
theorem d_LW_law_616 : decode M_LW_law.2.1 616 = .ok (.iconst 3, 1) := by decide +kernel
theorem d_LW_law_617 : decode M_LW_law.2.1 617 = .ok (.iadd, 1) := by decide +kernel
theorem d_LW_law_618 : decode M_LW_law.2.1 618 = .ok (.iaload, 1) := by decide +kernel
theorem d_LW_law_619 : decode M_LW_law.2.1 619 = .ok (.aload_n 0, 1) := by decide +kernel
theorem d_LW_law_620 : decode M_LW_law.2.1 620 = .ok (.iload_n 3, 1) := by decide +kernel
theorem d_LW_law_621 : decode M_LW_law.2.1 621 = .ok (.iconst 4, 1) := by decide +kernel
theorem d_LW_law_622 : decode M_LW_law.2.1 622 = .ok (.iadd, 1) := by decide +kernel
theorem d_LW_law_623 : decode M_LW_law.2.1 623 = .ok (.iaload, 1) := by decide +kernel
theorem d_LW_law_624 : decode M_LW_law.2.1 624 = .ok (.invokevirtual 81, 3) := by decide +kernel
theorem d_LW_law_627 : decode M_LW_law.2.1 627 = .ok (.if_icmp .eq 31, 3) := by decide +kernel
theorem d_LW_law_630 : decode M_LW_law.2.1 630 = .ok (.iconst 0, 1) := by decide +kernel
theorem d_LW_law_631 : decode M_LW_law.2.1 631 = .ok (.ireturn, 1) := by decide +kernel
theorem d_LW_law_632 : decode M_LW_law.2.1 632 = .ok (.aload_n 1, 1) := by decide +kernel
theorem d_LW_law_633 : decode M_LW_law.2.1 633 = .ok (.invokevirtual 82, 3) := by decide +kernel
theorem d_LW_law_636 : decode M_LW_law.2.1 636 = .ok (.aload_n 2, 1) := by decide +kernel
theorem d_LW_law_637 : decode M_LW_law.2.1 637 = .ok (.invokevirtual 85, 3) := by decide +kernel
theorem d_LW_law_640 : decode M_LW_law.2.1 640 = .ok (.if_icmp .eq 18, 3) := by decide +kernel
theorem d_LW_law_643 : decode M_LW_law.2.1 643 = .ok (.iconst 0, 1) := by decide +kernel
theorem d_LW_law_644 : decode M_LW_law.2.1 644 = .ok (.ireturn, 1) := by decide +kernel
theorem d_LW_law_645 : decode M_LW_law.2.1 645 = .ok (.aload_n 1, 1) := by decide +kernel
theorem d_LW_law_646 : decode M_LW_law.2.1 646 = .ok (.invokevirtual 86, 3) := by decide +kernel
theorem d_LW_law_649 : decode M_LW_law.2.1 649 = .ok (.aload_n 2, 1) := by decide +kernel
theorem d_LW_law_650 : decode M_LW_law.2.1 650 = .ok (.invokevirtual 89, 3) := by decide +kernel
theorem d_LW_law_653 : decode M_LW_law.2.1 653 = .ok (.if_icmp .eq 5, 3) := by decide +kernel
theorem d_LW_law_656 : decode M_LW_law.2.1 656 = .ok (.iconst 0, 1) := by decide +kernel
theorem d_LW_law_657 : decode M_LW_law.2.1 657 = .ok (.ireturn, 1) := by decide +kernel
theorem d_LW_law_658 : decode M_LW_law.2.1 658 = .ok (.iinc 3 6, 3) := by decide +kernel
theorem d_LW_law_661 : decode M_LW_law.2.1 661 = .ok (.goto (-643), 3) := by decide +kernel
theorem d_LW_law_664 : decode M_LW_law.2.1 664 = .ok (.iconst 1, 1) := by decide +kernel
theorem d_LW_law_665 : decode M_LW_law.2.1 665 = .ok (.ireturn, 1) := by decide +kernel
