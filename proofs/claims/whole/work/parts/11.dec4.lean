theorem d_MD_writeOut_113 : decode M_MD_writeOut.2.1 113 = .ok (.iload_n 1, 1) := by decide +kernel
theorem d_MD_writeOut_114 : decode M_MD_writeOut.2.1 114 = .ok (.iconst 1, 1) := by decide +kernel
theorem d_MD_writeOut_115 : decode M_MD_writeOut.2.1 115 = .ok (.iadd, 1) := by decide +kernel
theorem d_MD_writeOut_116 : decode M_MD_writeOut.2.1 116 = .ok (.iaload, 1) := by decide +kernel
theorem d_MD_writeOut_117 : decode M_MD_writeOut.2.1 117 = .ok (.bipush 48, 2) := by decide +kernel
theorem d_MD_writeOut_119 : decode M_MD_writeOut.2.1 119 = .ok (.isub, 1) := by decide +kernel
theorem d_MD_writeOut_120 : decode M_MD_writeOut.2.1 120 = .ok (.goto 29, 3) := by decide +kernel
theorem d_MD_writeOut_123 : decode M_MD_writeOut.2.1 123 = .ok (.bipush 10, 2) := by decide +kernel
theorem d_MD_writeOut_125 : decode M_MD_writeOut.2.1 125 = .ok (.aload_n 0, 1) := by decide +kernel
theorem d_MD_writeOut_126 : decode M_MD_writeOut.2.1 126 = .ok (.getfield 13, 3) := by decide +kernel
theorem d_MD_writeOut_129 : decode M_MD_writeOut.2.1 129 = .ok (.iload_n 1, 1) := by decide +kernel
theorem d_MD_writeOut_130 : decode M_MD_writeOut.2.1 130 = .ok (.iconst 1, 1) := by decide +kernel
theorem d_MD_writeOut_131 : decode M_MD_writeOut.2.1 131 = .ok (.iadd, 1) := by decide +kernel
theorem d_MD_writeOut_132 : decode M_MD_writeOut.2.1 132 = .ok (.iaload, 1) := by decide +kernel
theorem d_MD_writeOut_133 : decode M_MD_writeOut.2.1 133 = .ok (.bipush 48, 2) := by decide +kernel
theorem d_MD_writeOut_135 : decode M_MD_writeOut.2.1 135 = .ok (.isub, 1) := by decide +kernel
theorem d_MD_writeOut_136 : decode M_MD_writeOut.2.1 136 = .ok (.imul, 1) := by decide +kernel
theorem d_MD_writeOut_137 : decode M_MD_writeOut.2.1 137 = .ok (.aload_n 0, 1) := by decide +kernel
theorem d_MD_writeOut_138 : decode M_MD_writeOut.2.1 138 = .ok (.getfield 13, 3) := by decide +kernel
theorem d_MD_writeOut_141 : decode M_MD_writeOut.2.1 141 = .ok (.iload_n 1, 1) := by decide +kernel
theorem d_MD_writeOut_142 : decode M_MD_writeOut.2.1 142 = .ok (.iconst 2, 1) := by decide +kernel
theorem d_MD_writeOut_143 : decode M_MD_writeOut.2.1 143 = .ok (.iadd, 1) := by decide +kernel
theorem d_MD_writeOut_144 : decode M_MD_writeOut.2.1 144 = .ok (.iaload, 1) := by decide +kernel
theorem d_MD_writeOut_145 : decode M_MD_writeOut.2.1 145 = .ok (.iadd, 1) := by decide +kernel
theorem d_MD_writeOut_146 : decode M_MD_writeOut.2.1 146 = .ok (.bipush 48, 2) := by decide +kernel
theorem d_MD_writeOut_148 : decode M_MD_writeOut.2.1 148 = .ok (.isub, 1) := by decide +kernel
theorem d_MD_writeOut_149 : decode M_MD_writeOut.2.1 149 = .ok (.istore_n 3, 1) := by decide +kernel
theorem d_MD_writeOut_150 : decode M_MD_writeOut.2.1 150 = .ok (.iload_n 1, 1) := by decide +kernel
theorem d_MD_writeOut_151 : decode M_MD_writeOut.2.1 151 = .ok (.iload 4, 2) := by decide +kernel
theorem d_MD_writeOut_153 : decode M_MD_writeOut.2.1 153 = .ok (.iadd, 1) := by decide +kernel
theorem d_MD_writeOut_154 : decode M_MD_writeOut.2.1 154 = .ok (.iconst 2, 1) := by decide +kernel
theorem d_MD_writeOut_155 : decode M_MD_writeOut.2.1 155 = .ok (.iadd, 1) := by decide +kernel
theorem d_MD_writeOut_156 : decode M_MD_writeOut.2.1 156 = .ok (.istore_n 1, 1) := by decide +kernel
theorem d_MD_writeOut_157 : decode M_MD_writeOut.2.1 157 = .ok (.iload_n 2, 1) := by decide +kernel
theorem d_MD_writeOut_158 : decode M_MD_writeOut.2.1 158 = .ok (.bipush 40, 2) := by decide +kernel
theorem d_MD_writeOut_160 : decode M_MD_writeOut.2.1 160 = .ok (.if_icmp .eq 24, 3) := by decide +kernel
theorem d_MD_writeOut_163 : decode M_MD_writeOut.2.1 163 = .ok (.iload_n 2, 1) := by decide +kernel
theorem d_MD_writeOut_164 : decode M_MD_writeOut.2.1 164 = .ok (.bipush 41, 2) := by decide +kernel
theorem d_MD_writeOut_166 : decode M_MD_writeOut.2.1 166 = .ok (.if_icmp .eq 18, 3) := by decide +kernel
theorem d_MD_writeOut_169 : decode M_MD_writeOut.2.1 169 = .ok (.iload_n 3, 1) := by decide +kernel
theorem d_MD_writeOut_170 : decode M_MD_writeOut.2.1 170 = .ok (.ifCond .eq 14, 3) := by decide +kernel
theorem d_MD_writeOut_173 : decode M_MD_writeOut.2.1 173 = .ok (.aload_n 0, 1) := by decide +kernel
theorem d_MD_writeOut_174 : decode M_MD_writeOut.2.1 174 = .ok (.getfield 71, 3) := by decide +kernel
theorem d_MD_writeOut_177 : decode M_MD_writeOut.2.1 177 = .ok (.iload_n 3, 1) := by decide +kernel
theorem d_MD_writeOut_178 : decode M_MD_writeOut.2.1 178 = .ok (.iadd, 1) := by decide +kernel
theorem d_MD_writeOut_179 : decode M_MD_writeOut.2.1 179 = .ok (.bipush 18, 2) := by decide +kernel
theorem d_MD_writeOut_181 : decode M_MD_writeOut.2.1 181 = .ok (.if_icmp .le 5, 3) := by decide +kernel
theorem d_MD_writeOut_184 : decode M_MD_writeOut.2.1 184 = .ok (.iconst 0, 1) := by decide +kernel
theorem d_MD_writeOut_185 : decode M_MD_writeOut.2.1 185 = .ok (.ireturn, 1) := by decide +kernel
theorem d_MD_writeOut_186 : decode M_MD_writeOut.2.1 186 = .ok (.iconst 0, 1) := by decide +kernel
theorem d_MD_writeOut_187 : decode M_MD_writeOut.2.1 187 = .ok (.istore 4, 2) := by decide +kernel
theorem d_MD_writeOut_189 : decode M_MD_writeOut.2.1 189 = .ok (.iload 4, 2) := by decide +kernel
theorem d_MD_writeOut_191 : decode M_MD_writeOut.2.1 191 = .ok (.iload_n 3, 1) := by decide +kernel
theorem d_MD_writeOut_192 : decode M_MD_writeOut.2.1 192 = .ok (.if_icmp .ge 29, 3) := by decide +kernel
theorem d_MD_writeOut_195 : decode M_MD_writeOut.2.1 195 = .ok (.aload_n 0, 1) := by decide +kernel
theorem d_MD_writeOut_196 : decode M_MD_writeOut.2.1 196 = .ok (.getfield 16, 3) := by decide +kernel
theorem d_MD_writeOut_199 : decode M_MD_writeOut.2.1 199 = .ok (.aload_n 0, 1) := by decide +kernel
theorem d_MD_writeOut_200 : decode M_MD_writeOut.2.1 200 = .ok (.getfield 71, 3) := by decide +kernel
theorem d_MD_writeOut_203 : decode M_MD_writeOut.2.1 203 = .ok (.iload_n 2, 1) := by decide +kernel
theorem d_MD_writeOut_204 : decode M_MD_writeOut.2.1 204 = .ok (.iastore, 1) := by decide +kernel
theorem d_MD_writeOut_205 : decode M_MD_writeOut.2.1 205 = .ok (.aload_n 0, 1) := by decide +kernel
theorem d_MD_writeOut_206 : decode M_MD_writeOut.2.1 206 = .ok (.dup, 1) := by decide +kernel
theorem d_MD_writeOut_207 : decode M_MD_writeOut.2.1 207 = .ok (.getfield 71, 3) := by decide +kernel
theorem d_MD_writeOut_210 : decode M_MD_writeOut.2.1 210 = .ok (.iconst 1, 1) := by decide +kernel
theorem d_MD_writeOut_211 : decode M_MD_writeOut.2.1 211 = .ok (.iadd, 1) := by decide +kernel
theorem d_MD_writeOut_212 : decode M_MD_writeOut.2.1 212 = .ok (.putfield 71, 3) := by decide +kernel
theorem d_MD_writeOut_215 : decode M_MD_writeOut.2.1 215 = .ok (.iinc 4 1, 3) := by decide +kernel
theorem d_MD_writeOut_218 : decode M_MD_writeOut.2.1 218 = .ok (.goto (-29), 3) := by decide +kernel
theorem d_MD_writeOut_221 : decode M_MD_writeOut.2.1 221 = .ok (.goto (-214), 3) := by decide +kernel
theorem d_MD_writeOut_224 : decode M_MD_writeOut.2.1 224 = .ok (.aload_n 0, 1) := by decide +kernel
theorem d_MD_writeOut_225 : decode M_MD_writeOut.2.1 225 = .ok (.getfield 71, 3) := by decide +kernel
theorem d_MD_writeOut_228 : decode M_MD_writeOut.2.1 228 = .ok (.ifCond .le 7, 3) := by decide +kernel
theorem d_MD_writeOut_231 : decode M_MD_writeOut.2.1 231 = .ok (.iconst 1, 1) := by decide +kernel
theorem d_MD_writeOut_232 : decode M_MD_writeOut.2.1 232 = .ok (.goto 4, 3) := by decide +kernel
theorem d_MD_writeOut_235 : decode M_MD_writeOut.2.1 235 = .ok (.iconst 0, 1) := by decide +kernel
theorem d_MD_writeOut_236 : decode M_MD_writeOut.2.1 236 = .ok (.ireturn, 1) := by decide +kernel
theorem d_MD_repeats_0 : decode M_MD_repeats.2.1 0 = .ok (.iload_n 0, 1) := by decide +kernel
theorem d_MD_repeats_1 : decode M_MD_repeats.2.1 1 = .ok (.bipush 57, 2) := by decide +kernel
theorem d_MD_repeats_3 : decode M_MD_repeats.2.1 3 = .ok (.if_icmp .eq 29, 3) := by decide +kernel
theorem d_MD_repeats_6 : decode M_MD_repeats.2.1 6 = .ok (.iload_n 0, 1) := by decide +kernel
theorem d_MD_repeats_7 : decode M_MD_repeats.2.1 7 = .ok (.bipush 90, 2) := by decide +kernel
theorem d_MD_repeats_9 : decode M_MD_repeats.2.1 9 = .ok (.if_icmp .eq 23, 3) := by decide +kernel
theorem d_MD_repeats_12 : decode M_MD_repeats.2.1 12 = .ok (.iload_n 0, 1) := by decide +kernel
theorem d_MD_repeats_13 : decode M_MD_repeats.2.1 13 = .ok (.bipush 42, 2) := by decide +kernel
theorem d_MD_repeats_15 : decode M_MD_repeats.2.1 15 = .ok (.if_icmp .eq 17, 3) := by decide +kernel
theorem d_MD_repeats_18 : decode M_MD_repeats.2.1 18 = .ok (.iload_n 0, 1) := by decide +kernel
theorem d_MD_repeats_19 : decode M_MD_repeats.2.1 19 = .ok (.invokestatic 65, 3) := by decide +kernel
theorem d_MD_repeats_22 : decode M_MD_repeats.2.1 22 = .ok (.ifCond .ne 10, 3) := by decide +kernel
theorem d_MD_repeats_25 : decode M_MD_repeats.2.1 25 = .ok (.iload_n 0, 1) := by decide +kernel
theorem d_MD_repeats_26 : decode M_MD_repeats.2.1 26 = .ok (.invokestatic 68, 3) := by decide +kernel
theorem d_MD_repeats_29 : decode M_MD_repeats.2.1 29 = .ok (.ifCond .eq 7, 3) := by decide +kernel
theorem d_MD_repeats_32 : decode M_MD_repeats.2.1 32 = .ok (.iconst 1, 1) := by decide +kernel
theorem d_MD_repeats_33 : decode M_MD_repeats.2.1 33 = .ok (.goto 4, 3) := by decide +kernel
theorem d_MD_repeats_36 : decode M_MD_repeats.2.1 36 = .ok (.iconst 0, 1) := by decide +kernel
theorem d_MD_repeats_37 : decode M_MD_repeats.2.1 37 = .ok (.ireturn, 1) := by decide +kernel
theorem d_MD_floating_0 : decode M_MD_floating.2.1 0 = .ok (.iload_n 0, 1) := by decide +kernel
theorem d_MD_floating_1 : decode M_MD_floating.2.1 1 = .ok (.bipush 36, 2) := by decide +kernel
theorem d_MD_floating_3 : decode M_MD_floating.2.1 3 = .ok (.if_icmp .eq 10, 3) := by decide +kernel
theorem d_MD_floating_6 : decode M_MD_floating.2.1 6 = .ok (.iload_n 0, 1) := by decide +kernel
theorem d_MD_floating_7 : decode M_MD_floating.2.1 7 = .ok (.invokestatic 61, 3) := by decide +kernel
theorem d_MD_floating_10 : decode M_MD_floating.2.1 10 = .ok (.ifCond .eq 7, 3) := by decide +kernel
theorem d_MD_floating_13 : decode M_MD_floating.2.1 13 = .ok (.iconst 1, 1) := by decide +kernel
theorem d_MD_floating_14 : decode M_MD_floating.2.1 14 = .ok (.goto 4, 3) := by decide +kernel
theorem d_MD_floating_17 : decode M_MD_floating.2.1 17 = .ok (.iconst 0, 1) := by decide +kernel
theorem d_MD_floating_18 : decode M_MD_floating.2.1 18 = .ok (.ireturn, 1) := by decide +kernel
theorem d_MD_plusMinus_0 : decode M_MD_plusMinus.2.1 0 = .ok (.iload_n 0, 1) := by decide +kernel
theorem d_MD_plusMinus_1 : decode M_MD_plusMinus.2.1 1 = .ok (.bipush 43, 2) := by decide +kernel
theorem d_MD_plusMinus_3 : decode M_MD_plusMinus.2.1 3 = .ok (.if_icmp .eq 9, 3) := by decide +kernel
theorem d_MD_plusMinus_6 : decode M_MD_plusMinus.2.1 6 = .ok (.iload_n 0, 1) := by decide +kernel
theorem d_MD_plusMinus_7 : decode M_MD_plusMinus.2.1 7 = .ok (.bipush 45, 2) := by decide +kernel
theorem d_MD_plusMinus_9 : decode M_MD_plusMinus.2.1 9 = .ok (.if_icmp .ne 7, 3) := by decide +kernel
theorem d_MD_plusMinus_12 : decode M_MD_plusMinus.2.1 12 = .ok (.iconst 1, 1) := by decide +kernel
theorem d_MD_plusMinus_13 : decode M_MD_plusMinus.2.1 13 = .ok (.goto 4, 3) := by decide +kernel
theorem d_MD_plusMinus_16 : decode M_MD_plusMinus.2.1 16 = .ok (.iconst 0, 1) := by decide +kernel
theorem d_MD_plusMinus_17 : decode M_MD_plusMinus.2.1 17 = .ok (.ireturn, 1) := by decide +kernel
theorem d_MD_insertion_0 : decode M_MD_insertion.2.1 0 = .ok (.iload_n 0, 1) := by decide +kernel
theorem d_MD_insertion_1 : decode M_MD_insertion.2.1 1 = .ok (.bipush 44, 2) := by decide +kernel
theorem d_MD_insertion_3 : decode M_MD_insertion.2.1 3 = .ok (.if_icmp .eq 21, 3) := by decide +kernel
theorem d_MD_insertion_6 : decode M_MD_insertion.2.1 6 = .ok (.iload_n 0, 1) := by decide +kernel
theorem d_MD_insertion_7 : decode M_MD_insertion.2.1 7 = .ok (.bipush 66, 2) := by decide +kernel
theorem d_MD_insertion_9 : decode M_MD_insertion.2.1 9 = .ok (.if_icmp .eq 15, 3) := by decide +kernel
theorem d_MD_insertion_12 : decode M_MD_insertion.2.1 12 = .ok (.iload_n 0, 1) := by decide +kernel
theorem d_MD_insertion_13 : decode M_MD_insertion.2.1 13 = .ok (.bipush 48, 2) := by decide +kernel
theorem d_MD_insertion_15 : decode M_MD_insertion.2.1 15 = .ok (.if_icmp .eq 9, 3) := by decide +kernel
theorem d_MD_insertion_18 : decode M_MD_insertion.2.1 18 = .ok (.iload_n 0, 1) := by decide +kernel
theorem d_MD_insertion_19 : decode M_MD_insertion.2.1 19 = .ok (.bipush 47, 2) := by decide +kernel
theorem d_MD_insertion_21 : decode M_MD_insertion.2.1 21 = .ok (.if_icmp .ne 7, 3) := by decide +kernel
theorem d_MD_insertion_24 : decode M_MD_insertion.2.1 24 = .ok (.iconst 1, 1) := by decide +kernel
theorem d_MD_insertion_25 : decode M_MD_insertion.2.1 25 = .ok (.goto 4, 3) := by decide +kernel
theorem d_MD_insertion_28 : decode M_MD_insertion.2.1 28 = .ok (.iconst 0, 1) := by decide +kernel
theorem d_MD_insertion_29 : decode M_MD_insertion.2.1 29 = .ok (.ireturn, 1) := by decide +kernel
theorem d_MD_drawn_0 : decode M_MD_drawn.2.1 0 = .ok (.iload_n 1, 1) := by decide +kernel
theorem d_MD_drawn_1 : decode M_MD_drawn.2.1 1 = .ok (.aload_n 0, 1) := by decide +kernel
theorem d_MD_drawn_2 : decode M_MD_drawn.2.1 2 = .ok (.getfield 57, 3) := by decide +kernel
theorem d_MD_drawn_5 : decode M_MD_drawn.2.1 5 = .ok (.if_icmp .ge 12, 3) := by decide +kernel
theorem d_MD_drawn_8 : decode M_MD_drawn.2.1 8 = .ok (.aload_n 0, 1) := by decide +kernel
theorem d_MD_drawn_9 : decode M_MD_drawn.2.1 9 = .ok (.getfield 13, 3) := by decide +kernel
theorem d_MD_drawn_12 : decode M_MD_drawn.2.1 12 = .ok (.iload_n 1, 1) := by decide +kernel
theorem d_MD_drawn_13 : decode M_MD_drawn.2.1 13 = .ok (.iaload, 1) := by decide +kernel
theorem d_MD_drawn_14 : decode M_MD_drawn.2.1 14 = .ok (.goto 4, 3) := by decide +kernel
theorem d_MD_drawn_17 : decode M_MD_drawn.2.1 17 = .ok (.iconst 0, 1) := by decide +kernel
theorem d_MD_drawn_18 : decode M_MD_drawn.2.1 18 = .ok (.ireturn, 1) := by decide +kernel
theorem d_MD_figure_0 : decode M_MD_figure.2.1 0 = .ok (.iload_n 0, 1) := by decide +kernel
theorem d_MD_figure_1 : decode M_MD_figure.2.1 1 = .ok (.bipush 48, 2) := by decide +kernel
theorem d_MD_figure_3 : decode M_MD_figure.2.1 3 = .ok (.if_icmp .lt 13, 3) := by decide +kernel
theorem d_MD_figure_6 : decode M_MD_figure.2.1 6 = .ok (.iload_n 0, 1) := by decide +kernel
theorem d_MD_figure_7 : decode M_MD_figure.2.1 7 = .ok (.bipush 57, 2) := by decide +kernel
theorem d_MD_figure_9 : decode M_MD_figure.2.1 9 = .ok (.if_icmp .gt 7, 3) := by decide +kernel
theorem d_MD_figure_12 : decode M_MD_figure.2.1 12 = .ok (.iconst 1, 1) := by decide +kernel
theorem d_MD_figure_13 : decode M_MD_figure.2.1 13 = .ok (.goto 4, 3) := by decide +kernel
theorem d_MD_figure_16 : decode M_MD_figure.2.1 16 = .ok (.iconst 0, 1) := by decide +kernel
theorem d_MD_figure_17 : decode M_MD_figure.2.1 17 = .ok (.ireturn, 1) := by decide +kernel
theorem d_MD_numeric_0 : decode M_MD_numeric.2.1 0 = .ok (.aload_n 0, 1) := by decide +kernel
theorem d_MD_numeric_1 : decode M_MD_numeric.2.1 1 = .ok (.aload_n 0, 1) := by decide +kernel
theorem d_MD_numeric_2 : decode M_MD_numeric.2.1 2 = .ok (.getfield 16, 3) := by decide +kernel
theorem d_MD_numeric_5 : decode M_MD_numeric.2.1 5 = .ok (.iconst 0, 1) := by decide +kernel
theorem d_MD_numeric_6 : decode M_MD_numeric.2.1 6 = .ok (.iaload, 1) := by decide +kernel
theorem d_MD_numeric_7 : decode M_MD_numeric.2.1 7 = .ok (.bipush 83, 2) := by decide +kernel
theorem d_MD_numeric_9 : decode M_MD_numeric.2.1 9 = .ok (.if_icmp .ne 7, 3) := by decide +kernel
theorem d_MD_numeric_12 : decode M_MD_numeric.2.1 12 = .ok (.iconst 1, 1) := by decide +kernel
theorem d_MD_numeric_13 : decode M_MD_numeric.2.1 13 = .ok (.goto 4, 3) := by decide +kernel
theorem d_MD_numeric_16 : decode M_MD_numeric.2.1 16 = .ok (.iconst 0, 1) := by decide +kernel
theorem d_MD_numeric_17 : decode M_MD_numeric.2.1 17 = .ok (.putfield 84, 3) := by decide +kernel
theorem d_MD_numeric_20 : decode M_MD_numeric.2.1 20 = .ok (.aload_n 0, 1) := by decide +kernel
theorem d_MD_numeric_21 : decode M_MD_numeric.2.1 21 = .ok (.iconst 0, 1) := by decide +kernel
theorem d_MD_numeric_22 : decode M_MD_numeric.2.1 22 = .ok (.putfield 88, 3) := by decide +kernel
theorem d_MD_numeric_25 : decode M_MD_numeric.2.1 25 = .ok (.aload_n 0, 1) := by decide +kernel
theorem d_MD_numeric_26 : decode M_MD_numeric.2.1 26 = .ok (.iconst 0, 1) := by decide +kernel
theorem d_MD_numeric_27 : decode M_MD_numeric.2.1 27 = .ok (.putfield 91, 3) := by decide +kernel
theorem d_MD_numeric_30 : decode M_MD_numeric.2.1 30 = .ok (.aload_n 0, 1) := by decide +kernel
theorem d_MD_numeric_31 : decode M_MD_numeric.2.1 31 = .ok (.iconst 0, 1) := by decide +kernel
theorem d_MD_numeric_32 : decode M_MD_numeric.2.1 32 = .ok (.putfield 94, 3) := by decide +kernel
theorem d_MD_numeric_35 : decode M_MD_numeric.2.1 35 = .ok (.aload_n 0, 1) := by decide +kernel
theorem d_MD_numeric_36 : decode M_MD_numeric.2.1 36 = .ok (.iconst 0, 1) := by decide +kernel
theorem d_MD_numeric_37 : decode M_MD_numeric.2.1 37 = .ok (.putfield 97, 3) := by decide +kernel
theorem d_MD_numeric_40 : decode M_MD_numeric.2.1 40 = .ok (.aload_n 0, 1) := by decide +kernel
theorem d_MD_numeric_41 : decode M_MD_numeric.2.1 41 = .ok (.iconst 0, 1) := by decide +kernel
theorem d_MD_numeric_42 : decode M_MD_numeric.2.1 42 = .ok (.putfield 100, 3) := by decide +kernel
theorem d_MD_numeric_45 : decode M_MD_numeric.2.1 45 = .ok (.iconst 0, 1) := by decide +kernel
theorem d_MD_numeric_46 : decode M_MD_numeric.2.1 46 = .ok (.istore_n 1, 1) := by decide +kernel
theorem d_MD_numeric_47 : decode M_MD_numeric.2.1 47 = .ok (.aload_n 0, 1) := by decide +kernel
theorem d_MD_numeric_48 : decode M_MD_numeric.2.1 48 = .ok (.getfield 84, 3) := by decide +kernel
theorem d_MD_numeric_51 : decode M_MD_numeric.2.1 51 = .ok (.ifCond .eq 7, 3) := by decide +kernel
theorem d_MD_numeric_54 : decode M_MD_numeric.2.1 54 = .ok (.iconst 1, 1) := by decide +kernel
theorem d_MD_numeric_55 : decode M_MD_numeric.2.1 55 = .ok (.goto 4, 3) := by decide +kernel
theorem d_MD_numeric_58 : decode M_MD_numeric.2.1 58 = .ok (.iconst 0, 1) := by decide +kernel
theorem d_MD_numeric_59 : decode M_MD_numeric.2.1 59 = .ok (.istore_n 2, 1) := by decide +kernel
theorem d_MD_numeric_60 : decode M_MD_numeric.2.1 60 = .ok (.iload_n 2, 1) := by decide +kernel
theorem d_MD_numeric_61 : decode M_MD_numeric.2.1 61 = .ok (.aload_n 0, 1) := by decide +kernel
theorem d_MD_numeric_62 : decode M_MD_numeric.2.1 62 = .ok (.getfield 71, 3) := by decide +kernel
theorem d_MD_numeric_65 : decode M_MD_numeric.2.1 65 = .ok (.if_icmp .ge 70, 3) := by decide +kernel
theorem d_MD_numeric_68 : decode M_MD_numeric.2.1 68 = .ok (.aload_n 0, 1) := by decide +kernel
theorem d_MD_numeric_69 : decode M_MD_numeric.2.1 69 = .ok (.getfield 16, 3) := by decide +kernel
theorem d_MD_numeric_72 : decode M_MD_numeric.2.1 72 = .ok (.iload_n 2, 1) := by decide +kernel
theorem d_MD_numeric_73 : decode M_MD_numeric.2.1 73 = .ok (.iaload, 1) := by decide +kernel
theorem d_MD_numeric_74 : decode M_MD_numeric.2.1 74 = .ok (.bipush 57, 2) := by decide +kernel
theorem d_MD_numeric_76 : decode M_MD_numeric.2.1 76 = .ok (.if_icmp .ne 34, 3) := by decide +kernel
theorem d_MD_numeric_79 : decode M_MD_numeric.2.1 79 = .ok (.aload_n 0, 1) := by decide +kernel
theorem d_MD_numeric_80 : decode M_MD_numeric.2.1 80 = .ok (.dup, 1) := by decide +kernel
theorem d_MD_numeric_81 : decode M_MD_numeric.2.1 81 = .ok (.getfield 97, 3) := by decide +kernel
theorem d_MD_numeric_84 : decode M_MD_numeric.2.1 84 = .ok (.iconst 1, 1) := by decide +kernel
theorem d_MD_numeric_85 : decode M_MD_numeric.2.1 85 = .ok (.iadd, 1) := by decide +kernel
theorem d_MD_numeric_86 : decode M_MD_numeric.2.1 86 = .ok (.putfield 97, 3) := by decide +kernel
theorem d_MD_numeric_89 : decode M_MD_numeric.2.1 89 = .ok (.aload_n 0, 1) := by decide +kernel
theorem d_MD_numeric_90 : decode M_MD_numeric.2.1 90 = .ok (.iload_n 1, 1) := by decide +kernel
theorem d_MD_numeric_91 : decode M_MD_numeric.2.1 91 = .ok (.ifCond .le 12, 3) := by decide +kernel
theorem d_MD_numeric_94 : decode M_MD_numeric.2.1 94 = .ok (.aload_n 0, 1) := by decide +kernel
theorem d_MD_numeric_95 : decode M_MD_numeric.2.1 95 = .ok (.getfield 100, 3) := by decide +kernel
theorem d_MD_numeric_98 : decode M_MD_numeric.2.1 98 = .ok (.iconst 1, 1) := by decide +kernel
theorem d_MD_numeric_99 : decode M_MD_numeric.2.1 99 = .ok (.iadd, 1) := by decide +kernel
theorem d_MD_numeric_100 : decode M_MD_numeric.2.1 100 = .ok (.goto 4, 3) := by decide +kernel
theorem d_MD_numeric_103 : decode M_MD_numeric.2.1 103 = .ok (.iconst 0, 1) := by decide +kernel
theorem d_MD_numeric_104 : decode M_MD_numeric.2.1 104 = .ok (.putfield 100, 3) := by decide +kernel
theorem d_MD_numeric_107 : decode M_MD_numeric.2.1 107 = .ok (.goto 22, 3) := by decide +kernel
theorem d_MD_numeric_110 : decode M_MD_numeric.2.1 110 = .ok (.aload_n 0, 1) := by decide +kernel
theorem d_MD_numeric_111 : decode M_MD_numeric.2.1 111 = .ok (.getfield 16, 3) := by decide +kernel
theorem d_MD_numeric_114 : decode M_MD_numeric.2.1 114 = .ok (.iload_n 2, 1) := by decide +kernel
theorem d_MD_numeric_115 : decode M_MD_numeric.2.1 115 = .ok (.iaload, 1) := by decide +kernel
theorem d_MD_numeric_116 : decode M_MD_numeric.2.1 116 = .ok (.bipush 86, 2) := by decide +kernel
theorem d_MD_numeric_118 : decode M_MD_numeric.2.1 118 = .ok (.if_icmp .ne 9, 3) := by decide +kernel
theorem d_MD_numeric_121 : decode M_MD_numeric.2.1 121 = .ok (.iinc 1 1, 3) := by decide +kernel
theorem d_MD_numeric_124 : decode M_MD_numeric.2.1 124 = .ok (.goto 5, 3) := by decide +kernel
theorem d_MD_numeric_127 : decode M_MD_numeric.2.1 127 = .ok (.iconst 0, 1) := by decide +kernel
theorem d_MD_numeric_128 : decode M_MD_numeric.2.1 128 = .ok (.ireturn, 1) := by decide +kernel
theorem d_MD_numeric_129 : decode M_MD_numeric.2.1 129 = .ok (.iinc 2 1, 3) := by decide +kernel
theorem d_MD_numeric_132 : decode M_MD_numeric.2.1 132 = .ok (.goto (-72), 3) := by decide +kernel
theorem d_MD_numeric_135 : decode M_MD_numeric.2.1 135 = .ok (.iload_n 1, 1) := by decide +kernel
theorem d_MD_numeric_136 : decode M_MD_numeric.2.1 136 = .ok (.iconst 1, 1) := by decide +kernel
theorem d_MD_numeric_137 : decode M_MD_numeric.2.1 137 = .ok (.if_icmp .gt 32, 3) := by decide +kernel
theorem d_MD_numeric_140 : decode M_MD_numeric.2.1 140 = .ok (.aload_n 0, 1) := by decide +kernel
theorem d_MD_numeric_141 : decode M_MD_numeric.2.1 141 = .ok (.getfield 97, 3) := by decide +kernel
theorem d_MD_numeric_144 : decode M_MD_numeric.2.1 144 = .ok (.iconst 1, 1) := by decide +kernel
theorem d_MD_numeric_145 : decode M_MD_numeric.2.1 145 = .ok (.if_icmp .lt 24, 3) := by decide +kernel
theorem d_MD_numeric_148 : decode M_MD_numeric.2.1 148 = .ok (.aload_n 0, 1) := by decide +kernel
theorem d_MD_numeric_149 : decode M_MD_numeric.2.1 149 = .ok (.getfield 97, 3) := by decide +kernel
theorem d_MD_numeric_152 : decode M_MD_numeric.2.1 152 = .ok (.bipush 9, 2) := by decide +kernel
theorem d_MD_numeric_154 : decode M_MD_numeric.2.1 154 = .ok (.if_icmp .gt 15, 3) := by decide +kernel
theorem d_MD_numeric_157 : decode M_MD_numeric.2.1 157 = .ok (.aload_n 0, 1) := by decide +kernel
theorem d_MD_numeric_158 : decode M_MD_numeric.2.1 158 = .ok (.getfield 100, 3) := by decide +kernel
theorem d_MD_numeric_161 : decode M_MD_numeric.2.1 161 = .ok (.iconst 4, 1) := by decide +kernel
theorem d_MD_numeric_162 : decode M_MD_numeric.2.1 162 = .ok (.if_icmp .gt 7, 3) := by decide +kernel
theorem d_MD_numeric_165 : decode M_MD_numeric.2.1 165 = .ok (.iconst 1, 1) := by decide +kernel
theorem d_MD_numeric_166 : decode M_MD_numeric.2.1 166 = .ok (.goto 4, 3) := by decide +kernel
theorem d_MD_numeric_169 : decode M_MD_numeric.2.1 169 = .ok (.iconst 0, 1) := by decide +kernel
theorem d_MD_numeric_170 : decode M_MD_numeric.2.1 170 = .ok (.ireturn, 1) := by decide +kernel
theorem d_MD_editing_0 : decode M_MD_editing.2.1 0 = .ok (.aload_n 0, 1) := by decide +kernel
theorem d_MD_editing_1 : decode M_MD_editing.2.1 1 = .ok (.invokevirtual 107, 3) := by decide +kernel
theorem d_MD_editing_4 : decode M_MD_editing.2.1 4 = .ok (.aload_n 0, 1) := by decide +kernel
theorem d_MD_editing_5 : decode M_MD_editing.2.1 5 = .ok (.iconst 1, 1) := by decide +kernel
theorem d_MD_editing_6 : decode M_MD_editing.2.1 6 = .ok (.putfield 88, 3) := by decide +kernel
theorem d_MD_editing_9 : decode M_MD_editing.2.1 9 = .ok (.aload_n 0, 1) := by decide +kernel
theorem d_MD_editing_10 : decode M_MD_editing.2.1 10 = .ok (.iconst 0, 1) := by decide +kernel
theorem d_MD_editing_11 : decode M_MD_editing.2.1 11 = .ok (.putfield 97, 3) := by decide +kernel
theorem d_MD_editing_14 : decode M_MD_editing.2.1 14 = .ok (.aload_n 0, 1) := by decide +kernel
theorem d_MD_editing_15 : decode M_MD_editing.2.1 15 = .ok (.iconst 0, 1) := by decide +kernel
theorem d_MD_editing_16 : decode M_MD_editing.2.1 16 = .ok (.putfield 100, 3) := by decide +kernel
theorem d_MD_editing_19 : decode M_MD_editing.2.1 19 = .ok (.iconst 0, 1) := by decide +kernel
theorem d_MD_editing_20 : decode M_MD_editing.2.1 20 = .ok (.istore_n 1, 1) := by decide +kernel
theorem d_MD_editing_21 : decode M_MD_editing.2.1 21 = .ok (.iconst 0, 1) := by decide +kernel
theorem d_MD_editing_22 : decode M_MD_editing.2.1 22 = .ok (.istore_n 2, 1) := by decide +kernel
theorem d_MD_editing_23 : decode M_MD_editing.2.1 23 = .ok (.iconst 0, 1) := by decide +kernel
theorem d_MD_editing_24 : decode M_MD_editing.2.1 24 = .ok (.istore_n 3, 1) := by decide +kernel
theorem d_MD_editing_25 : decode M_MD_editing.2.1 25 = .ok (.aload_n 0, 1) := by decide +kernel
theorem d_MD_editing_26 : decode M_MD_editing.2.1 26 = .ok (.getfield 91, 3) := by decide +kernel
theorem d_MD_editing_29 : decode M_MD_editing.2.1 29 = .ok (.istore 4, 2) := by decide +kernel
theorem d_MD_editing_31 : decode M_MD_editing.2.1 31 = .ok (.iload 4, 2) := by decide +kernel
theorem d_MD_editing_33 : decode M_MD_editing.2.1 33 = .ok (.aload_n 0, 1) := by decide +kernel
theorem d_MD_editing_34 : decode M_MD_editing.2.1 34 = .ok (.getfield 71, 3) := by decide +kernel
theorem d_MD_editing_37 : decode M_MD_editing.2.1 37 = .ok (.aload_n 0, 1) := by decide +kernel
theorem d_MD_editing_38 : decode M_MD_editing.2.1 38 = .ok (.getfield 94, 3) := by decide +kernel
theorem d_MD_editing_41 : decode M_MD_editing.2.1 41 = .ok (.isub, 1) := by decide +kernel
theorem d_MD_editing_42 : decode M_MD_editing.2.1 42 = .ok (.if_icmp .ge 144, 3) := by decide +kernel
theorem d_MD_editing_45 : decode M_MD_editing.2.1 45 = .ok (.aload_n 0, 1) := by decide +kernel
theorem d_MD_editing_46 : decode M_MD_editing.2.1 46 = .ok (.getfield 16, 3) := by decide +kernel
theorem d_MD_editing_49 : decode M_MD_editing.2.1 49 = .ok (.iload 4, 2) := by decide +kernel
theorem d_MD_editing_51 : decode M_MD_editing.2.1 51 = .ok (.iaload, 1) := by decide +kernel
theorem d_MD_editing_52 : decode M_MD_editing.2.1 52 = .ok (.istore 5, 2) := by decide +kernel
theorem d_MD_editing_54 : decode M_MD_editing.2.1 54 = .ok (.iload 5, 2) := by decide +kernel
theorem d_MD_editing_56 : decode M_MD_editing.2.1 56 = .ok (.bipush 57, 2) := by decide +kernel
theorem d_MD_editing_58 : decode M_MD_editing.2.1 58 = .ok (.if_icmp .ne 34, 3) := by decide +kernel
theorem d_MD_editing_61 : decode M_MD_editing.2.1 61 = .ok (.aload_n 0, 1) := by decide +kernel
theorem d_MD_editing_62 : decode M_MD_editing.2.1 62 = .ok (.dup, 1) := by decide +kernel
theorem d_MD_editing_63 : decode M_MD_editing.2.1 63 = .ok (.getfield 97, 3) := by decide +kernel
theorem d_MD_editing_66 : decode M_MD_editing.2.1 66 = .ok (.iconst 1, 1) := by decide +kernel
theorem d_MD_editing_67 : decode M_MD_editing.2.1 67 = .ok (.iadd, 1) := by decide +kernel
theorem d_MD_editing_68 : decode M_MD_editing.2.1 68 = .ok (.putfield 97, 3) := by decide +kernel
theorem d_MD_editing_71 : decode M_MD_editing.2.1 71 = .ok (.aload_n 0, 1) := by decide +kernel
theorem d_MD_editing_72 : decode M_MD_editing.2.1 72 = .ok (.iload_n 3, 1) := by decide +kernel
theorem d_MD_editing_73 : decode M_MD_editing.2.1 73 = .ok (.ifCond .le 12, 3) := by decide +kernel
theorem d_MD_editing_76 : decode M_MD_editing.2.1 76 = .ok (.aload_n 0, 1) := by decide +kernel
theorem d_MD_editing_77 : decode M_MD_editing.2.1 77 = .ok (.getfield 100, 3) := by decide +kernel
theorem d_MD_editing_80 : decode M_MD_editing.2.1 80 = .ok (.iconst 1, 1) := by decide +kernel
theorem d_MD_editing_81 : decode M_MD_editing.2.1 81 = .ok (.iadd, 1) := by decide +kernel
theorem d_MD_editing_82 : decode M_MD_editing.2.1 82 = .ok (.goto 4, 3) := by decide +kernel
theorem d_MD_editing_85 : decode M_MD_editing.2.1 85 = .ok (.iconst 0, 1) := by decide +kernel
theorem d_MD_editing_86 : decode M_MD_editing.2.1 86 = .ok (.putfield 100, 3) := by decide +kernel
theorem d_MD_editing_89 : decode M_MD_editing.2.1 89 = .ok (.goto 91, 3) := by decide +kernel
theorem d_MD_editing_92 : decode M_MD_editing.2.1 92 = .ok (.iload 5, 2) := by decide +kernel
theorem d_MD_editing_94 : decode M_MD_editing.2.1 94 = .ok (.bipush 46, 2) := by decide +kernel
theorem d_MD_editing_96 : decode M_MD_editing.2.1 96 = .ok (.if_icmp .ne 9, 3) := by decide +kernel
theorem d_MD_editing_99 : decode M_MD_editing.2.1 99 = .ok (.iinc 3 1, 3) := by decide +kernel
theorem d_MD_editing_102 : decode M_MD_editing.2.1 102 = .ok (.goto 78, 3) := by decide +kernel
theorem d_MD_editing_105 : decode M_MD_editing.2.1 105 = .ok (.iload 5, 2) := by decide +kernel
theorem d_MD_editing_107 : decode M_MD_editing.2.1 107 = .ok (.invokestatic 68, 3) := by decide +kernel
theorem d_MD_editing_110 : decode M_MD_editing.2.1 110 = .ok (.ifCond .eq 14, 3) := by decide +kernel
theorem d_MD_editing_113 : decode M_MD_editing.2.1 113 = .ok (.iload 4, 2) := by decide +kernel
theorem d_MD_editing_115 : decode M_MD_editing.2.1 115 = .ok (.aload_n 0, 1) := by decide +kernel
theorem d_MD_editing_116 : decode M_MD_editing.2.1 116 = .ok (.getfield 91, 3) := by decide +kernel
theorem d_MD_editing_119 : decode M_MD_editing.2.1 119 = .ok (.if_icmp .ne 61, 3) := by decide +kernel
theorem d_MD_editing_122 : decode M_MD_editing.2.1 122 = .ok (.iconst 0, 1) := by decide +kernel
theorem d_MD_editing_123 : decode M_MD_editing.2.1 123 = .ok (.ireturn, 1) := by decide +kernel
theorem d_MD_editing_124 : decode M_MD_editing.2.1 124 = .ok (.iload 5, 2) := by decide +kernel
theorem d_MD_editing_126 : decode M_MD_editing.2.1 126 = .ok (.bipush 90, 2) := by decide +kernel
theorem d_MD_editing_128 : decode M_MD_editing.2.1 128 = .ok (.if_icmp .eq 18, 3) := by decide +kernel
theorem d_MD_editing_131 : decode M_MD_editing.2.1 131 = .ok (.iload 5, 2) := by decide +kernel
theorem d_MD_editing_133 : decode M_MD_editing.2.1 133 = .ok (.bipush 42, 2) := by decide +kernel
theorem d_MD_editing_135 : decode M_MD_editing.2.1 135 = .ok (.if_icmp .eq 11, 3) := by decide +kernel
theorem d_MD_editing_138 : decode M_MD_editing.2.1 138 = .ok (.iload 5, 2) := by decide +kernel
theorem d_MD_editing_140 : decode M_MD_editing.2.1 140 = .ok (.invokestatic 65, 3) := by decide +kernel
theorem d_MD_editing_143 : decode M_MD_editing.2.1 143 = .ok (.ifCond .eq 35, 3) := by decide +kernel
theorem d_MD_editing_146 : decode M_MD_editing.2.1 146 = .ok (.aload_n 0, 1) := by decide +kernel
theorem d_MD_editing_147 : decode M_MD_editing.2.1 147 = .ok (.getfield 97, 3) := by decide +kernel
theorem d_MD_editing_150 : decode M_MD_editing.2.1 150 = .ok (.ifCond .gt 17, 3) := by decide +kernel
theorem d_MD_editing_153 : decode M_MD_editing.2.1 153 = .ok (.iload_n 3, 1) := by decide +kernel
theorem d_MD_editing_154 : decode M_MD_editing.2.1 154 = .ok (.ifCond .gt 13, 3) := by decide +kernel
theorem d_MD_editing_157 : decode M_MD_editing.2.1 157 = .ok (.iload_n 1, 1) := by decide +kernel
theorem d_MD_editing_158 : decode M_MD_editing.2.1 158 = .ok (.ifCond .le 11, 3) := by decide +kernel
theorem d_MD_editing_161 : decode M_MD_editing.2.1 161 = .ok (.iload 5, 2) := by decide +kernel
theorem d_MD_editing_163 : decode M_MD_editing.2.1 163 = .ok (.iload_n 2, 1) := by decide +kernel
theorem d_MD_editing_164 : decode M_MD_editing.2.1 164 = .ok (.if_icmp .eq 5, 3) := by decide +kernel
theorem d_MD_editing_167 : decode M_MD_editing.2.1 167 = .ok (.iconst 0, 1) := by decide +kernel
theorem d_MD_editing_168 : decode M_MD_editing.2.1 168 = .ok (.ireturn, 1) := by decide +kernel
theorem d_MD_editing_169 : decode M_MD_editing.2.1 169 = .ok (.iload 5, 2) := by decide +kernel
theorem d_MD_editing_171 : decode M_MD_editing.2.1 171 = .ok (.istore_n 2, 1) := by decide +kernel
theorem d_MD_editing_172 : decode M_MD_editing.2.1 172 = .ok (.iinc 1 1, 3) := by decide +kernel
theorem d_MD_editing_175 : decode M_MD_editing.2.1 175 = .ok (.goto 5, 3) := by decide +kernel
theorem d_MD_editing_178 : decode M_MD_editing.2.1 178 = .ok (.iconst 0, 1) := by decide +kernel
theorem d_MD_editing_179 : decode M_MD_editing.2.1 179 = .ok (.ireturn, 1) := by decide +kernel
theorem d_MD_editing_180 : decode M_MD_editing.2.1 180 = .ok (.iinc 4 1, 3) := by decide +kernel
theorem d_MD_editing_183 : decode M_MD_editing.2.1 183 = .ok (.goto (-152), 3) := by decide +kernel
theorem d_MD_editing_186 : decode M_MD_editing.2.1 186 = .ok (.iload_n 2, 1) := by decide +kernel
theorem d_MD_editing_187 : decode M_MD_editing.2.1 187 = .ok (.invokestatic 65, 3) := by decide +kernel
theorem d_MD_editing_190 : decode M_MD_editing.2.1 190 = .ok (.istore 4, 2) := by decide +kernel
theorem d_MD_editing_192 : decode M_MD_editing.2.1 192 = .ok (.aload_n 0, 1) := by decide +kernel
theorem d_MD_editing_193 : decode M_MD_editing.2.1 193 = .ok (.getfield 71, 3) := by decide +kernel
theorem d_MD_editing_196 : decode M_MD_editing.2.1 196 = .ok (.aload_n 0, 1) := by decide +kernel
theorem d_MD_editing_197 : decode M_MD_editing.2.1 197 = .ok (.getfield 94, 3) := by decide +kernel
theorem d_MD_editing_200 : decode M_MD_editing.2.1 200 = .ok (.isub, 1) := by decide +kernel
theorem d_MD_editing_201 : decode M_MD_editing.2.1 201 = .ok (.aload_n 0, 1) := by decide +kernel
theorem d_MD_editing_202 : decode M_MD_editing.2.1 202 = .ok (.getfield 91, 3) := by decide +kernel
theorem d_MD_editing_205 : decode M_MD_editing.2.1 205 = .ok (.if_icmp .le 30, 3) := by decide +kernel
theorem d_MD_editing_208 : decode M_MD_editing.2.1 208 = .ok (.iload_n 3, 1) := by decide +kernel
theorem d_MD_editing_209 : decode M_MD_editing.2.1 209 = .ok (.iconst 1, 1) := by decide +kernel
theorem d_MD_editing_210 : decode M_MD_editing.2.1 210 = .ok (.if_icmp .gt 25, 3) := by decide +kernel
theorem d_MD_editing_213 : decode M_MD_editing.2.1 213 = .ok (.iload_n 3, 1) := by decide +kernel
theorem d_MD_editing_214 : decode M_MD_editing.2.1 214 = .ok (.iconst 1, 1) := by decide +kernel
theorem d_MD_editing_215 : decode M_MD_editing.2.1 215 = .ok (.if_icmp .ne 10, 3) := by decide +kernel
theorem d_MD_editing_218 : decode M_MD_editing.2.1 218 = .ok (.aload_n 0, 1) := by decide +kernel
theorem d_MD_editing_219 : decode M_MD_editing.2.1 219 = .ok (.getfield 100, 3) := by decide +kernel
theorem d_MD_editing_222 : decode M_MD_editing.2.1 222 = .ok (.ifCond .eq 13, 3) := by decide +kernel
theorem d_MD_editing_225 : decode M_MD_editing.2.1 225 = .ok (.iload 4, 2) := by decide +kernel
theorem d_MD_editing_227 : decode M_MD_editing.2.1 227 = .ok (.ifCond .eq 10, 3) := by decide +kernel
theorem d_MD_editing_230 : decode M_MD_editing.2.1 230 = .ok (.iload_n 1, 1) := by decide +kernel
theorem d_MD_editing_231 : decode M_MD_editing.2.1 231 = .ok (.iconst 2, 1) := by decide +kernel
theorem d_MD_editing_232 : decode M_MD_editing.2.1 232 = .ok (.if_icmp .ge 5, 3) := by decide +kernel
theorem d_MD_editing_235 : decode M_MD_editing.2.1 235 = .ok (.iconst 0, 1) := by decide +kernel
theorem d_MD_editing_236 : decode M_MD_editing.2.1 236 = .ok (.ireturn, 1) := by decide +kernel
theorem d_MD_editing_237 : decode M_MD_editing.2.1 237 = .ok (.aload_n 0, 1) := by decide +kernel
theorem d_MD_editing_238 : decode M_MD_editing.2.1 238 = .ok (.aload_n 0, 1) := by decide +kernel
theorem d_MD_editing_239 : decode M_MD_editing.2.1 239 = .ok (.getfield 97, 3) := by decide +kernel
theorem d_MD_editing_242 : decode M_MD_editing.2.1 242 = .ok (.iload 4, 2) := by decide +kernel
theorem d_MD_editing_244 : decode M_MD_editing.2.1 244 = .ok (.ifCond .eq 9, 3) := by decide +kernel
theorem d_MD_editing_247 : decode M_MD_editing.2.1 247 = .ok (.iload_n 1, 1) := by decide +kernel
theorem d_MD_editing_248 : decode M_MD_editing.2.1 248 = .ok (.iconst 1, 1) := by decide +kernel
theorem d_MD_editing_249 : decode M_MD_editing.2.1 249 = .ok (.isub, 1) := by decide +kernel
theorem d_MD_editing_250 : decode M_MD_editing.2.1 250 = .ok (.goto 4, 3) := by decide +kernel
theorem d_MD_editing_253 : decode M_MD_editing.2.1 253 = .ok (.iload_n 1, 1) := by decide +kernel
theorem d_MD_editing_254 : decode M_MD_editing.2.1 254 = .ok (.iadd, 1) := by decide +kernel
theorem d_MD_editing_255 : decode M_MD_editing.2.1 255 = .ok (.putfield 97, 3) := by decide +kernel
theorem d_MD_editing_258 : decode M_MD_editing.2.1 258 = .ok (.aload_n 0, 1) := by decide +kernel
theorem d_MD_editing_259 : decode M_MD_editing.2.1 259 = .ok (.aload_n 0, 1) := by decide +kernel
theorem d_MD_editing_260 : decode M_MD_editing.2.1 260 = .ok (.getfield 91, 3) := by decide +kernel
theorem d_MD_editing_263 : decode M_MD_editing.2.1 263 = .ok (.ifCond .le 15, 3) := by decide +kernel
theorem d_MD_editing_266 : decode M_MD_editing.2.1 266 = .ok (.aload_n 0, 1) := by decide +kernel
theorem d_MD_editing_267 : decode M_MD_editing.2.1 267 = .ok (.getfield 16, 3) := by decide +kernel
theorem d_MD_editing_270 : decode M_MD_editing.2.1 270 = .ok (.iconst 0, 1) := by decide +kernel
theorem d_MD_editing_271 : decode M_MD_editing.2.1 271 = .ok (.iaload, 1) := by decide +kernel
theorem d_MD_editing_272 : decode M_MD_editing.2.1 272 = .ok (.invokestatic 61, 3) := by decide +kernel
theorem d_MD_editing_275 : decode M_MD_editing.2.1 275 = .ok (.ifCond .ne 17, 3) := by decide +kernel
theorem d_MD_editing_278 : decode M_MD_editing.2.1 278 = .ok (.aload_n 0, 1) := by decide +kernel
theorem d_MD_editing_279 : decode M_MD_editing.2.1 279 = .ok (.getfield 94, 3) := by decide +kernel
theorem d_MD_editing_282 : decode M_MD_editing.2.1 282 = .ok (.ifCond .gt 10, 3) := by decide +kernel
theorem d_MD_editing_285 : decode M_MD_editing.2.1 285 = .ok (.iload_n 2, 1) := by decide +kernel
theorem d_MD_editing_286 : decode M_MD_editing.2.1 286 = .ok (.invokestatic 61, 3) := by decide +kernel
theorem d_MD_editing_289 : decode M_MD_editing.2.1 289 = .ok (.ifCond .eq 7, 3) := by decide +kernel
theorem d_MD_editing_292 : decode M_MD_editing.2.1 292 = .ok (.iconst 1, 1) := by decide +kernel
theorem d_MD_editing_293 : decode M_MD_editing.2.1 293 = .ok (.goto 4, 3) := by decide +kernel
theorem d_MD_editing_296 : decode M_MD_editing.2.1 296 = .ok (.iconst 0, 1) := by decide +kernel
theorem d_MD_editing_297 : decode M_MD_editing.2.1 297 = .ok (.putfield 84, 3) := by decide +kernel
theorem d_MD_editing_300 : decode M_MD_editing.2.1 300 = .ok (.aload_n 0, 1) := by decide +kernel
theorem d_MD_editing_301 : decode M_MD_editing.2.1 301 = .ok (.getfield 97, 3) := by decide +kernel
theorem d_MD_editing_304 : decode M_MD_editing.2.1 304 = .ok (.iconst 1, 1) := by decide +kernel
theorem d_MD_editing_305 : decode M_MD_editing.2.1 305 = .ok (.if_icmp .lt 24, 3) := by decide +kernel
theorem d_MD_editing_308 : decode M_MD_editing.2.1 308 = .ok (.aload_n 0, 1) := by decide +kernel
theorem d_MD_editing_309 : decode M_MD_editing.2.1 309 = .ok (.getfield 97, 3) := by decide +kernel
theorem d_MD_editing_312 : decode M_MD_editing.2.1 312 = .ok (.bipush 9, 2) := by decide +kernel
theorem d_MD_editing_314 : decode M_MD_editing.2.1 314 = .ok (.if_icmp .gt 15, 3) := by decide +kernel
theorem d_MD_editing_317 : decode M_MD_editing.2.1 317 = .ok (.aload_n 0, 1) := by decide +kernel
theorem d_MD_editing_318 : decode M_MD_editing.2.1 318 = .ok (.getfield 100, 3) := by decide +kernel
theorem d_MD_editing_321 : decode M_MD_editing.2.1 321 = .ok (.iconst 4, 1) := by decide +kernel
theorem d_MD_editing_322 : decode M_MD_editing.2.1 322 = .ok (.if_icmp .gt 7, 3) := by decide +kernel
theorem d_MD_editing_325 : decode M_MD_editing.2.1 325 = .ok (.iconst 1, 1) := by decide +kernel
theorem d_MD_editing_326 : decode M_MD_editing.2.1 326 = .ok (.goto 4, 3) := by decide +kernel
theorem d_MD_editing_329 : decode M_MD_editing.2.1 329 = .ok (.iconst 0, 1) := by decide +kernel
theorem d_MD_editing_330 : decode M_MD_editing.2.1 330 = .ok (.ireturn, 1) := by decide +kernel
theorem d_MD_ends_0 : decode M_MD_ends.2.1 0 = .ok (.aload_n 0, 1) := by decide +kernel
theorem d_MD_ends_1 : decode M_MD_ends.2.1 1 = .ok (.bipush 43, 2) := by decide +kernel
theorem d_MD_ends_3 : decode M_MD_ends.2.1 3 = .ok (.bipush 45, 2) := by decide +kernel
theorem d_MD_ends_5 : decode M_MD_ends.2.1 5 = .ok (.invokevirtual 103, 3) := by decide +kernel
theorem d_MD_ends_8 : decode M_MD_ends.2.1 8 = .ok (.istore_n 1, 1) := by decide +kernel
theorem d_MD_ends_9 : decode M_MD_ends.2.1 9 = .ok (.aload_n 0, 1) := by decide +kernel
theorem d_MD_ends_10 : decode M_MD_ends.2.1 10 = .ok (.iload_n 1, 1) := by decide +kernel
theorem d_MD_ends_11 : decode M_MD_ends.2.1 11 = .ok (.iconst 1, 1) := by decide +kernel
theorem d_MD_ends_12 : decode M_MD_ends.2.1 12 = .ok (.if_icmp .ne 19, 3) := by decide +kernel
theorem d_MD_ends_15 : decode M_MD_ends.2.1 15 = .ok (.aload_n 0, 1) := by decide +kernel
theorem d_MD_ends_16 : decode M_MD_ends.2.1 16 = .ok (.getfield 16, 3) := by decide +kernel
theorem d_MD_ends_19 : decode M_MD_ends.2.1 19 = .ok (.iconst 0, 1) := by decide +kernel
theorem d_MD_ends_20 : decode M_MD_ends.2.1 20 = .ok (.iaload, 1) := by decide +kernel
theorem d_MD_ends_21 : decode M_MD_ends.2.1 21 = .ok (.invokestatic 61, 3) := by decide +kernel
theorem d_MD_ends_24 : decode M_MD_ends.2.1 24 = .ok (.ifCond .eq 7, 3) := by decide +kernel
theorem d_MD_ends_27 : decode M_MD_ends.2.1 27 = .ok (.iconst 1, 1) := by decide +kernel
theorem d_MD_ends_28 : decode M_MD_ends.2.1 28 = .ok (.goto 4, 3) := by decide +kernel
theorem d_MD_ends_31 : decode M_MD_ends.2.1 31 = .ok (.iconst 0, 1) := by decide +kernel
theorem d_MD_ends_32 : decode M_MD_ends.2.1 32 = .ok (.putfield 91, 3) := by decide +kernel
theorem d_MD_ends_35 : decode M_MD_ends.2.1 35 = .ok (.aload_n 0, 1) := by decide +kernel
theorem d_MD_ends_36 : decode M_MD_ends.2.1 36 = .ok (.bipush 36, 2) := by decide +kernel
theorem d_MD_ends_38 : decode M_MD_ends.2.1 38 = .ok (.bipush 36, 2) := by decide +kernel
theorem d_MD_ends_40 : decode M_MD_ends.2.1 40 = .ok (.invokevirtual 103, 3) := by decide +kernel
theorem d_MD_ends_43 : decode M_MD_ends.2.1 43 = .ok (.iconst 1, 1) := by decide +kernel
theorem d_MD_ends_44 : decode M_MD_ends.2.1 44 = .ok (.if_icmp .ne 38, 3) := by decide +kernel
theorem d_MD_ends_47 : decode M_MD_ends.2.1 47 = .ok (.aload_n 0, 1) := by decide +kernel
theorem d_MD_ends_48 : decode M_MD_ends.2.1 48 = .ok (.getfield 91, 3) := by decide +kernel
theorem d_MD_ends_51 : decode M_MD_ends.2.1 51 = .ok (.aload_n 0, 1) := by decide +kernel
theorem d_MD_ends_52 : decode M_MD_ends.2.1 52 = .ok (.getfield 71, 3) := by decide +kernel
theorem d_MD_ends_55 : decode M_MD_ends.2.1 55 = .ok (.if_icmp .ge 27, 3) := by decide +kernel
theorem d_MD_ends_58 : decode M_MD_ends.2.1 58 = .ok (.aload_n 0, 1) := by decide +kernel
theorem d_MD_ends_59 : decode M_MD_ends.2.1 59 = .ok (.getfield 16, 3) := by decide +kernel
theorem d_MD_ends_62 : decode M_MD_ends.2.1 62 = .ok (.aload_n 0, 1) := by decide +kernel
theorem d_MD_ends_63 : decode M_MD_ends.2.1 63 = .ok (.getfield 91, 3) := by decide +kernel
theorem d_MD_ends_66 : decode M_MD_ends.2.1 66 = .ok (.iaload, 1) := by decide +kernel
theorem d_MD_ends_67 : decode M_MD_ends.2.1 67 = .ok (.bipush 36, 2) := by decide +kernel
theorem d_MD_ends_69 : decode M_MD_ends.2.1 69 = .ok (.if_icmp .ne 13, 3) := by decide +kernel
theorem d_MD_ends_72 : decode M_MD_ends.2.1 72 = .ok (.aload_n 0, 1) := by decide +kernel
theorem d_MD_ends_73 : decode M_MD_ends.2.1 73 = .ok (.dup, 1) := by decide +kernel
theorem d_MD_ends_74 : decode M_MD_ends.2.1 74 = .ok (.getfield 91, 3) := by decide +kernel
theorem d_MD_ends_77 : decode M_MD_ends.2.1 77 = .ok (.iconst 1, 1) := by decide +kernel
theorem d_MD_ends_78 : decode M_MD_ends.2.1 78 = .ok (.iadd, 1) := by decide +kernel
theorem d_MD_ends_79 : decode M_MD_ends.2.1 79 = .ok (.putfield 91, 3) := by decide +kernel
theorem d_MD_ends_82 : decode M_MD_ends.2.1 82 = .ok (.aload_n 0, 1) := by decide +kernel
theorem d_MD_ends_83 : decode M_MD_ends.2.1 83 = .ok (.iconst 0, 1) := by decide +kernel
theorem d_MD_ends_84 : decode M_MD_ends.2.1 84 = .ok (.putfield 94, 3) := by decide +kernel
theorem d_MD_ends_87 : decode M_MD_ends.2.1 87 = .ok (.aload_n 0, 1) := by decide +kernel
theorem d_MD_ends_88 : decode M_MD_ends.2.1 88 = .ok (.getfield 71, 3) := by decide +kernel
theorem d_MD_ends_91 : decode M_MD_ends.2.1 91 = .ok (.iconst 2, 1) := by decide +kernel
theorem d_MD_ends_92 : decode M_MD_ends.2.1 92 = .ok (.if_icmp .lt 92, 3) := by decide +kernel
theorem d_MD_ends_95 : decode M_MD_ends.2.1 95 = .ok (.aload_n 0, 1) := by decide +kernel
theorem d_MD_ends_96 : decode M_MD_ends.2.1 96 = .ok (.getfield 16, 3) := by decide +kernel
theorem d_MD_ends_99 : decode M_MD_ends.2.1 99 = .ok (.aload_n 0, 1) := by decide +kernel
theorem d_MD_ends_100 : decode M_MD_ends.2.1 100 = .ok (.getfield 71, 3) := by decide +kernel
theorem d_MD_ends_103 : decode M_MD_ends.2.1 103 = .ok (.iconst 2, 1) := by decide +kernel
theorem d_MD_ends_104 : decode M_MD_ends.2.1 104 = .ok (.isub, 1) := by decide +kernel
theorem d_MD_ends_105 : decode M_MD_ends.2.1 105 = .ok (.iaload, 1) := by decide +kernel
theorem d_MD_ends_106 : decode M_MD_ends.2.1 106 = .ok (.istore_n 2, 1) := by decide +kernel
theorem d_MD_ends_107 : decode M_MD_ends.2.1 107 = .ok (.aload_n 0, 1) := by decide +kernel
theorem d_MD_ends_108 : decode M_MD_ends.2.1 108 = .ok (.getfield 16, 3) := by decide +kernel
theorem d_MD_ends_111 : decode M_MD_ends.2.1 111 = .ok (.aload_n 0, 1) := by decide +kernel
theorem d_MD_ends_112 : decode M_MD_ends.2.1 112 = .ok (.getfield 71, 3) := by decide +kernel
theorem d_MD_ends_115 : decode M_MD_ends.2.1 115 = .ok (.iconst 1, 1) := by decide +kernel
theorem d_MD_ends_116 : decode M_MD_ends.2.1 116 = .ok (.isub, 1) := by decide +kernel
theorem d_MD_ends_117 : decode M_MD_ends.2.1 117 = .ok (.iaload, 1) := by decide +kernel
theorem d_MD_ends_118 : decode M_MD_ends.2.1 118 = .ok (.istore_n 3, 1) := by decide +kernel
theorem d_MD_ends_119 : decode M_MD_ends.2.1 119 = .ok (.iload_n 2, 1) := by decide +kernel
theorem d_MD_ends_120 : decode M_MD_ends.2.1 120 = .ok (.bipush 67, 2) := by decide +kernel
theorem d_MD_ends_122 : decode M_MD_ends.2.1 122 = .ok (.if_icmp .ne 9, 3) := by decide +kernel
theorem d_MD_ends_125 : decode M_MD_ends.2.1 125 = .ok (.iload_n 3, 1) := by decide +kernel
theorem d_MD_ends_126 : decode M_MD_ends.2.1 126 = .ok (.bipush 82, 2) := by decide +kernel
theorem d_MD_ends_128 : decode M_MD_ends.2.1 128 = .ok (.if_icmp .eq 15, 3) := by decide +kernel
theorem d_MD_ends_131 : decode M_MD_ends.2.1 131 = .ok (.iload_n 2, 1) := by decide +kernel
theorem d_MD_ends_132 : decode M_MD_ends.2.1 132 = .ok (.bipush 68, 2) := by decide +kernel
theorem d_MD_ends_134 : decode M_MD_ends.2.1 134 = .ok (.if_icmp .ne 13, 3) := by decide +kernel
theorem d_MD_ends_137 : decode M_MD_ends.2.1 137 = .ok (.iload_n 3, 1) := by decide +kernel
theorem d_MD_ends_138 : decode M_MD_ends.2.1 138 = .ok (.bipush 66, 2) := by decide +kernel
theorem d_MD_ends_140 : decode M_MD_ends.2.1 140 = .ok (.if_icmp .ne 7, 3) := by decide +kernel
theorem d_MD_ends_143 : decode M_MD_ends.2.1 143 = .ok (.iconst 1, 1) := by decide +kernel
theorem d_MD_ends_144 : decode M_MD_ends.2.1 144 = .ok (.goto 4, 3) := by decide +kernel
theorem d_MD_ends_147 : decode M_MD_ends.2.1 147 = .ok (.iconst 0, 1) := by decide +kernel
theorem d_MD_ends_148 : decode M_MD_ends.2.1 148 = .ok (.istore 4, 2) := by decide +kernel
theorem d_MD_ends_150 : decode M_MD_ends.2.1 150 = .ok (.aload_n 0, 1) := by decide +kernel
theorem d_MD_ends_151 : decode M_MD_ends.2.1 151 = .ok (.iload_n 1, 1) := by decide +kernel
theorem d_MD_ends_152 : decode M_MD_ends.2.1 152 = .ok (.iconst 1, 1) := by decide +kernel
theorem d_MD_ends_153 : decode M_MD_ends.2.1 153 = .ok (.if_icmp .ne 14, 3) := by decide +kernel
theorem d_MD_ends_156 : decode M_MD_ends.2.1 156 = .ok (.iload_n 3, 1) := by decide +kernel
theorem d_MD_ends_157 : decode M_MD_ends.2.1 157 = .ok (.invokestatic 61, 3) := by decide +kernel
theorem d_MD_ends_160 : decode M_MD_ends.2.1 160 = .ok (.ifCond .eq 7, 3) := by decide +kernel
theorem d_MD_ends_163 : decode M_MD_ends.2.1 163 = .ok (.iconst 1, 1) := by decide +kernel
theorem d_MD_ends_164 : decode M_MD_ends.2.1 164 = .ok (.goto 17, 3) := by decide +kernel
theorem d_MD_ends_167 : decode M_MD_ends.2.1 167 = .ok (.iload_n 1, 1) := by decide +kernel
theorem d_MD_ends_168 : decode M_MD_ends.2.1 168 = .ok (.ifCond .ne 12, 3) := by decide +kernel
theorem d_MD_ends_171 : decode M_MD_ends.2.1 171 = .ok (.iload 4, 2) := by decide +kernel
theorem d_MD_ends_173 : decode M_MD_ends.2.1 173 = .ok (.ifCond .eq 7, 3) := by decide +kernel
theorem d_MD_ends_176 : decode M_MD_ends.2.1 176 = .ok (.iconst 2, 1) := by decide +kernel
theorem d_MD_ends_177 : decode M_MD_ends.2.1 177 = .ok (.goto 4, 3) := by decide +kernel
theorem d_MD_ends_180 : decode M_MD_ends.2.1 180 = .ok (.iconst 0, 1) := by decide +kernel
theorem d_MD_ends_181 : decode M_MD_ends.2.1 181 = .ok (.putfield 94, 3) := by decide +kernel
theorem d_MD_ends_184 : decode M_MD_ends.2.1 184 = .ok (.return_, 1) := by decide +kernel
theorem d_MD_howMany_0 : decode M_MD_howMany.2.1 0 = .ok (.iconst 0, 1) := by decide +kernel
theorem d_MD_howMany_1 : decode M_MD_howMany.2.1 1 = .ok (.istore_n 3, 1) := by decide +kernel
theorem d_MD_howMany_2 : decode M_MD_howMany.2.1 2 = .ok (.iconst 0, 1) := by decide +kernel
theorem d_MD_howMany_3 : decode M_MD_howMany.2.1 3 = .ok (.istore 4, 2) := by decide +kernel
theorem d_MD_howMany_5 : decode M_MD_howMany.2.1 5 = .ok (.iload 4, 2) := by decide +kernel
theorem d_MD_howMany_7 : decode M_MD_howMany.2.1 7 = .ok (.aload_n 0, 1) := by decide +kernel
theorem d_MD_howMany_8 : decode M_MD_howMany.2.1 8 = .ok (.getfield 71, 3) := by decide +kernel
theorem d_MD_howMany_11 : decode M_MD_howMany.2.1 11 = .ok (.if_icmp .ge 39, 3) := by decide +kernel
theorem d_MD_howMany_14 : decode M_MD_howMany.2.1 14 = .ok (.aload_n 0, 1) := by decide +kernel
theorem d_MD_howMany_15 : decode M_MD_howMany.2.1 15 = .ok (.getfield 16, 3) := by decide +kernel
theorem d_MD_howMany_18 : decode M_MD_howMany.2.1 18 = .ok (.iload 4, 2) := by decide +kernel
theorem d_MD_howMany_20 : decode M_MD_howMany.2.1 20 = .ok (.iaload, 1) := by decide +kernel
theorem d_MD_howMany_21 : decode M_MD_howMany.2.1 21 = .ok (.iload_n 1, 1) := by decide +kernel
theorem d_MD_howMany_22 : decode M_MD_howMany.2.1 22 = .ok (.if_icmp .eq 14, 3) := by decide +kernel
theorem d_MD_howMany_25 : decode M_MD_howMany.2.1 25 = .ok (.aload_n 0, 1) := by decide +kernel
theorem d_MD_howMany_26 : decode M_MD_howMany.2.1 26 = .ok (.getfield 16, 3) := by decide +kernel
theorem d_MD_howMany_29 : decode M_MD_howMany.2.1 29 = .ok (.iload 4, 2) := by decide +kernel
theorem d_MD_howMany_31 : decode M_MD_howMany.2.1 31 = .ok (.iaload, 1) := by decide +kernel
theorem d_MD_howMany_32 : decode M_MD_howMany.2.1 32 = .ok (.iload_n 2, 1) := by decide +kernel
theorem d_MD_howMany_33 : decode M_MD_howMany.2.1 33 = .ok (.if_icmp .ne 9, 3) := by decide +kernel
theorem d_MD_howMany_36 : decode M_MD_howMany.2.1 36 = .ok (.iload_n 3, 1) := by decide +kernel
theorem d_MD_howMany_37 : decode M_MD_howMany.2.1 37 = .ok (.iconst 1, 1) := by decide +kernel
theorem d_MD_howMany_38 : decode M_MD_howMany.2.1 38 = .ok (.iadd, 1) := by decide +kernel
theorem d_MD_howMany_39 : decode M_MD_howMany.2.1 39 = .ok (.goto 4, 3) := by decide +kernel
theorem d_MD_howMany_42 : decode M_MD_howMany.2.1 42 = .ok (.iload_n 3, 1) := by decide +kernel
theorem d_MD_howMany_43 : decode M_MD_howMany.2.1 43 = .ok (.istore_n 3, 1) := by decide +kernel
theorem d_MD_howMany_44 : decode M_MD_howMany.2.1 44 = .ok (.iinc 4 1, 3) := by decide +kernel
theorem d_MD_howMany_47 : decode M_MD_howMany.2.1 47 = .ok (.goto (-42), 3) := by decide +kernel
theorem d_MD_howMany_50 : decode M_MD_howMany.2.1 50 = .ok (.iload_n 3, 1) := by decide +kernel
theorem d_MD_howMany_51 : decode M_MD_howMany.2.1 51 = .ok (.ireturn, 1) := by decide +kernel
theorem d_MD_widthOf_0 : decode M_MD_widthOf.2.1 0 = .ok (.iload_n 0, 1) := by decide +kernel
theorem d_MD_widthOf_1 : decode M_MD_widthOf.2.1 1 = .ok (.ifCond .ne 7, 3) := by decide +kernel
theorem d_MD_widthOf_4 : decode M_MD_widthOf.2.1 4 = .ok (.iload_n 1, 1) := by decide +kernel
theorem d_MD_widthOf_5 : decode M_MD_widthOf.2.1 5 = .ok (.goto 37, 3) := by decide +kernel
theorem d_MD_widthOf_8 : decode M_MD_widthOf.2.1 8 = .ok (.iload_n 0, 1) := by decide +kernel
theorem d_MD_widthOf_9 : decode M_MD_widthOf.2.1 9 = .ok (.iconst 1, 1) := by decide +kernel
theorem d_MD_widthOf_10 : decode M_MD_widthOf.2.1 10 = .ok (.if_icmp .ne 11, 3) := by decide +kernel
theorem d_MD_widthOf_13 : decode M_MD_widthOf.2.1 13 = .ok (.iload_n 1, 1) := by decide +kernel
theorem d_MD_widthOf_14 : decode M_MD_widthOf.2.1 14 = .ok (.iconst 2, 1) := by decide +kernel
theorem d_MD_widthOf_15 : decode M_MD_widthOf.2.1 15 = .ok (.idiv, 1) := by decide +kernel
theorem d_MD_widthOf_16 : decode M_MD_widthOf.2.1 16 = .ok (.iconst 1, 1) := by decide +kernel
theorem d_MD_widthOf_17 : decode M_MD_widthOf.2.1 17 = .ok (.iadd, 1) := by decide +kernel
theorem d_MD_widthOf_18 : decode M_MD_widthOf.2.1 18 = .ok (.goto 24, 3) := by decide +kernel
theorem d_MD_widthOf_21 : decode M_MD_widthOf.2.1 21 = .ok (.iload_n 0, 1) := by decide +kernel
theorem d_MD_widthOf_22 : decode M_MD_widthOf.2.1 22 = .ok (.iconst 2, 1) := by decide +kernel
theorem d_MD_widthOf_23 : decode M_MD_widthOf.2.1 23 = .ok (.if_icmp .ne 9, 3) := by decide +kernel
theorem d_MD_widthOf_26 : decode M_MD_widthOf.2.1 26 = .ok (.iload_n 1, 1) := by decide +kernel
theorem d_MD_widthOf_27 : decode M_MD_widthOf.2.1 27 = .ok (.iconst 1, 1) := by decide +kernel
theorem d_MD_widthOf_28 : decode M_MD_widthOf.2.1 28 = .ok (.iadd, 1) := by decide +kernel
theorem d_MD_widthOf_29 : decode M_MD_widthOf.2.1 29 = .ok (.goto 13, 3) := by decide +kernel
theorem d_MD_widthOf_32 : decode M_MD_widthOf.2.1 32 = .ok (.iload_n 1, 1) := by decide +kernel
theorem d_MD_widthOf_33 : decode M_MD_widthOf.2.1 33 = .ok (.iconst 4, 1) := by decide +kernel
theorem d_MD_widthOf_34 : decode M_MD_widthOf.2.1 34 = .ok (.if_icmp .gt 7, 3) := by decide +kernel
theorem d_MD_widthOf_37 : decode M_MD_widthOf.2.1 37 = .ok (.iconst 2, 1) := by decide +kernel
theorem d_MD_widthOf_38 : decode M_MD_widthOf.2.1 38 = .ok (.goto 4, 3) := by decide +kernel
theorem d_MD_widthOf_41 : decode M_MD_widthOf.2.1 41 = .ok (.iconst 4, 1) := by decide +kernel
theorem d_MD_widthOf_42 : decode M_MD_widthOf.2.1 42 = .ok (.ireturn, 1) := by decide +kernel
theorem d_MD_fields_0 : decode M_MD_fields.2.1 0 = .ok (.aload_n 0, 1) := by decide +kernel
theorem d_MD_fields_1 : decode M_MD_fields.2.1 1 = .ok (.getfield 123, 3) := by decide +kernel
theorem d_MD_fields_4 : decode M_MD_fields.2.1 4 = .ok (.ireturn, 1) := by decide +kernel
theorem d_MD_size_0 : decode M_MD_size.2.1 0 = .ok (.aload_n 0, 1) := by decide +kernel
theorem d_MD_size_1 : decode M_MD_size.2.1 1 = .ok (.iload_n 1, 1) := by decide +kernel
theorem d_MD_size_2 : decode M_MD_size.2.1 2 = .ok (.invokevirtual 126, 3) := by decide +kernel
theorem d_MD_size_5 : decode M_MD_size.2.1 5 = .ok (.ifCond .ne 5, 3) := by decide +kernel
theorem d_MD_size_8 : decode M_MD_size.2.1 8 = .ok (.iconst (-1), 1) := by decide +kernel
theorem d_MD_size_9 : decode M_MD_size.2.1 9 = .ok (.ireturn, 1) := by decide +kernel
theorem d_MD_size_10 : decode M_MD_size.2.1 10 = .ok (.aload_n 0, 1) := by decide +kernel
theorem d_MD_size_11 : decode M_MD_size.2.1 11 = .ok (.getfield 35, 3) := by decide +kernel
theorem d_MD_size_14 : decode M_MD_size.2.1 14 = .ok (.iload_n 1, 1) := by decide +kernel
theorem d_MD_size_15 : decode M_MD_size.2.1 15 = .ok (.baload, 1) := by decide +kernel
theorem d_MD_size_16 : decode M_MD_size.2.1 16 = .ok (.ifCond .eq 12, 3) := by decide +kernel
theorem d_MD_size_19 : decode M_MD_size.2.1 19 = .ok (.aload_n 0, 1) := by decide +kernel
theorem d_MD_size_20 : decode M_MD_size.2.1 20 = .ok (.getfield 41, 3) := by decide +kernel
theorem d_MD_size_23 : decode M_MD_size.2.1 23 = .ok (.iload_n 1, 1) := by decide +kernel
theorem d_MD_size_24 : decode M_MD_size.2.1 24 = .ok (.iaload, 1) := by decide +kernel
theorem d_MD_size_25 : decode M_MD_size.2.1 25 = .ok (.goto 18, 3) := by decide +kernel
theorem d_MD_size_28 : decode M_MD_size.2.1 28 = .ok (.aload_n 0, 1) := by decide +kernel
theorem d_MD_size_29 : decode M_MD_size.2.1 29 = .ok (.getfield 22, 3) := by decide +kernel
theorem d_MD_size_32 : decode M_MD_size.2.1 32 = .ok (.iload_n 1, 1) := by decide +kernel
theorem d_MD_size_33 : decode M_MD_size.2.1 33 = .ok (.iaload, 1) := by decide +kernel
theorem d_MD_size_34 : decode M_MD_size.2.1 34 = .ok (.aload_n 0, 1) := by decide +kernel
theorem d_MD_size_35 : decode M_MD_size.2.1 35 = .ok (.getfield 25, 3) := by decide +kernel
theorem d_MD_size_38 : decode M_MD_size.2.1 38 = .ok (.iload_n 1, 1) := by decide +kernel
theorem d_MD_size_39 : decode M_MD_size.2.1 39 = .ok (.iaload, 1) := by decide +kernel
theorem d_MD_size_40 : decode M_MD_size.2.1 40 = .ok (.invokestatic 120, 3) := by decide +kernel
theorem d_MD_size_43 : decode M_MD_size.2.1 43 = .ok (.ireturn, 1) := by decide +kernel
theorem d_MD_there_0 : decode M_MD_there.2.1 0 = .ok (.iload_n 1, 1) := by decide +kernel
theorem d_MD_there_1 : decode M_MD_there.2.1 1 = .ok (.ifCond .lt 15, 3) := by decide +kernel
theorem d_MD_there_4 : decode M_MD_there.2.1 4 = .ok (.iload_n 1, 1) := by decide +kernel
theorem d_MD_there_5 : decode M_MD_there.2.1 5 = .ok (.aload_n 0, 1) := by decide +kernel
theorem d_MD_there_6 : decode M_MD_there.2.1 6 = .ok (.getfield 123, 3) := by decide +kernel
theorem d_MD_there_9 : decode M_MD_there.2.1 9 = .ok (.if_icmp .ge 7, 3) := by decide +kernel
theorem d_MD_there_12 : decode M_MD_there.2.1 12 = .ok (.iconst 1, 1) := by decide +kernel
theorem d_MD_there_13 : decode M_MD_there.2.1 13 = .ok (.goto 4, 3) := by decide +kernel
theorem d_MD_there_16 : decode M_MD_there.2.1 16 = .ok (.iconst 0, 1) := by decide +kernel
theorem d_MD_there_17 : decode M_MD_there.2.1 17 = .ok (.ireturn, 1) := by decide +kernel
theorem d_MD_shape_0 : decode M_MD_shape.2.1 0 = .ok (.aload_n 0, 1) := by decide +kernel
theorem d_MD_shape_1 : decode M_MD_shape.2.1 1 = .ok (.iload_n 1, 1) := by decide +kernel
theorem d_MD_shape_2 : decode M_MD_shape.2.1 2 = .ok (.invokevirtual 126, 3) := by decide +kernel
theorem d_MD_shape_5 : decode M_MD_shape.2.1 5 = .ok (.ifCond .ne 5, 3) := by decide +kernel
theorem d_MD_shape_8 : decode M_MD_shape.2.1 8 = .ok (.iconst (-1), 1) := by decide +kernel
theorem d_MD_shape_9 : decode M_MD_shape.2.1 9 = .ok (.ireturn, 1) := by decide +kernel
theorem d_MD_shape_10 : decode M_MD_shape.2.1 10 = .ok (.aload_n 0, 1) := by decide +kernel
theorem d_MD_shape_11 : decode M_MD_shape.2.1 11 = .ok (.getfield 25, 3) := by decide +kernel
theorem d_MD_shape_14 : decode M_MD_shape.2.1 14 = .ok (.iload_n 1, 1) := by decide +kernel
theorem d_MD_shape_15 : decode M_MD_shape.2.1 15 = .ok (.iaload, 1) := by decide +kernel
theorem d_MD_shape_16 : decode M_MD_shape.2.1 16 = .ok (.bipush 16, 2) := by decide +kernel
theorem d_MD_shape_18 : decode M_MD_shape.2.1 18 = .ok (.aload_n 0, 1) := by decide +kernel
theorem d_MD_shape_19 : decode M_MD_shape.2.1 19 = .ok (.getfield 28, 3) := by decide +kernel
theorem d_MD_shape_22 : decode M_MD_shape.2.1 22 = .ok (.iload_n 1, 1) := by decide +kernel
theorem d_MD_shape_23 : decode M_MD_shape.2.1 23 = .ok (.iaload, 1) := by decide +kernel
theorem d_MD_shape_24 : decode M_MD_shape.2.1 24 = .ok (.imul, 1) := by decide +kernel
theorem d_MD_shape_25 : decode M_MD_shape.2.1 25 = .ok (.iadd, 1) := by decide +kernel
theorem d_MD_shape_26 : decode M_MD_shape.2.1 26 = .ok (.aload_n 0, 1) := by decide +kernel
theorem d_MD_shape_27 : decode M_MD_shape.2.1 27 = .ok (.getfield 31, 3) := by decide +kernel
theorem d_MD_shape_30 : decode M_MD_shape.2.1 30 = .ok (.iload_n 1, 1) := by decide +kernel
theorem d_MD_shape_31 : decode M_MD_shape.2.1 31 = .ok (.baload, 1) := by decide +kernel
theorem d_MD_shape_32 : decode M_MD_shape.2.1 32 = .ok (.ifCond .eq 9, 3) := by decide +kernel
theorem d_MD_shape_35 : decode M_MD_shape.2.1 35 = .ok (.sipush 256, 3) := by decide +kernel
theorem d_MD_shape_38 : decode M_MD_shape.2.1 38 = .ok (.goto 4, 3) := by decide +kernel
theorem d_MD_shape_41 : decode M_MD_shape.2.1 41 = .ok (.iconst 0, 1) := by decide +kernel
theorem d_MD_shape_42 : decode M_MD_shape.2.1 42 = .ok (.iadd, 1) := by decide +kernel
theorem d_MD_shape_43 : decode M_MD_shape.2.1 43 = .ok (.aload_n 0, 1) := by decide +kernel
theorem d_MD_shape_44 : decode M_MD_shape.2.1 44 = .ok (.getfield 35, 3) := by decide +kernel
theorem d_MD_shape_47 : decode M_MD_shape.2.1 47 = .ok (.iload_n 1, 1) := by decide +kernel
theorem d_MD_shape_48 : decode M_MD_shape.2.1 48 = .ok (.baload, 1) := by decide +kernel
theorem d_MD_shape_49 : decode M_MD_shape.2.1 49 = .ok (.ifCond .eq 9, 3) := by decide +kernel
theorem d_MD_shape_52 : decode M_MD_shape.2.1 52 = .ok (.sipush 512, 3) := by decide +kernel
theorem d_MD_shape_55 : decode M_MD_shape.2.1 55 = .ok (.goto 4, 3) := by decide +kernel
theorem d_MD_shape_58 : decode M_MD_shape.2.1 58 = .ok (.iconst 0, 1) := by decide +kernel
theorem d_MD_shape_59 : decode M_MD_shape.2.1 59 = .ok (.iadd, 1) := by decide +kernel
theorem d_MD_shape_60 : decode M_MD_shape.2.1 60 = .ok (.ireturn, 1) := by decide +kernel
theorem d_MD_peek_0 : decode M_MD_peek.2.1 0 = .ok (.iload_n 1, 1) := by decide +kernel
theorem d_MD_peek_1 : decode M_MD_peek.2.1 1 = .ok (.ifCond .lt 9, 3) := by decide +kernel
theorem d_MD_peek_4 : decode M_MD_peek.2.1 4 = .ok (.iload_n 1, 1) := by decide +kernel
theorem d_MD_peek_5 : decode M_MD_peek.2.1 5 = .ok (.bipush 63, 2) := by decide +kernel
theorem d_MD_peek_7 : decode M_MD_peek.2.1 7 = .ok (.if_icmp .le 7, 3) := by decide +kernel
theorem d_MD_peek_10 : decode M_MD_peek.2.1 10 = .ok (.iconst (-1), 1) := by decide +kernel
theorem d_MD_peek_11 : decode M_MD_peek.2.1 11 = .ok (.goto 9, 3) := by decide +kernel
theorem d_MD_peek_14 : decode M_MD_peek.2.1 14 = .ok (.aload_n 0, 1) := by decide +kernel
theorem d_MD_peek_15 : decode M_MD_peek.2.1 15 = .ok (.getfield 7, 3) := by decide +kernel
theorem d_MD_peek_18 : decode M_MD_peek.2.1 18 = .ok (.iload_n 1, 1) := by decide +kernel
theorem d_MD_peek_19 : decode M_MD_peek.2.1 19 = .ok (.iaload, 1) := by decide +kernel
theorem d_MD_peek_20 : decode M_MD_peek.2.1 20 = .ok (.ireturn, 1) := by decide +kernel
theorem d_MD_poke_0 : decode M_MD_poke.2.1 0 = .ok (.iload_n 1, 1) := by decide +kernel
theorem d_MD_poke_1 : decode M_MD_poke.2.1 1 = .ok (.ifCond .lt 20, 3) := by decide +kernel
theorem d_MD_poke_4 : decode M_MD_poke.2.1 4 = .ok (.iload_n 1, 1) := by decide +kernel
theorem d_MD_poke_5 : decode M_MD_poke.2.1 5 = .ok (.bipush 63, 2) := by decide +kernel
theorem d_MD_poke_7 : decode M_MD_poke.2.1 7 = .ok (.if_icmp .gt 14, 3) := by decide +kernel
theorem d_MD_poke_10 : decode M_MD_poke.2.1 10 = .ok (.iload_n 2, 1) := by decide +kernel
theorem d_MD_poke_11 : decode M_MD_poke.2.1 11 = .ok (.ifCond .lt 10, 3) := by decide +kernel
theorem d_MD_poke_14 : decode M_MD_poke.2.1 14 = .ok (.iload_n 2, 1) := by decide +kernel
theorem d_MD_poke_15 : decode M_MD_poke.2.1 15 = .ok (.sipush 255, 3) := by decide +kernel
theorem d_MD_poke_18 : decode M_MD_poke.2.1 18 = .ok (.if_icmp .le 5, 3) := by decide +kernel
theorem d_MD_poke_21 : decode M_MD_poke.2.1 21 = .ok (.iconst 0, 1) := by decide +kernel
theorem d_MD_poke_22 : decode M_MD_poke.2.1 22 = .ok (.ireturn, 1) := by decide +kernel
theorem d_MD_poke_23 : decode M_MD_poke.2.1 23 = .ok (.aload_n 0, 1) := by decide +kernel
theorem d_MD_poke_24 : decode M_MD_poke.2.1 24 = .ok (.getfield 7, 3) := by decide +kernel
theorem d_MD_poke_27 : decode M_MD_poke.2.1 27 = .ok (.iload_n 1, 1) := by decide +kernel
theorem d_MD_poke_28 : decode M_MD_poke.2.1 28 = .ok (.iload_n 2, 1) := by decide +kernel
theorem d_MD_poke_29 : decode M_MD_poke.2.1 29 = .ok (.iastore, 1) := by decide +kernel
theorem d_MD_poke_30 : decode M_MD_poke.2.1 30 = .ok (.iconst 1, 1) := by decide +kernel
theorem d_MD_poke_31 : decode M_MD_poke.2.1 31 = .ok (.ireturn, 1) := by decide +kernel
theorem d_MD_value_0 : decode M_MD_value.2.1 0 = .ok (.aload_n 0, 1) := by decide +kernel
theorem d_MD_value_1 : decode M_MD_value.2.1 1 = .ok (.iload_n 1, 1) := by decide +kernel
theorem d_MD_value_2 : decode M_MD_value.2.1 2 = .ok (.invokevirtual 126, 3) := by decide +kernel
theorem d_MD_value_5 : decode M_MD_value.2.1 5 = .ok (.ifCond .ne 7, 3) := by decide +kernel
theorem d_MD_value_8 : decode M_MD_value.2.1 8 = .ok (.ldc2_w 184, 3) := by decide +kernel
theorem d_MD_value_11 : decode M_MD_value.2.1 11 = .ok (.lreturn, 1) := by decide +kernel
theorem d_MD_value_12 : decode M_MD_value.2.1 12 = .ok (.aload_n 0, 1) := by decide +kernel
theorem d_MD_value_13 : decode M_MD_value.2.1 13 = .ok (.iload_n 1, 1) := by decide +kernel
theorem d_MD_value_14 : decode M_MD_value.2.1 14 = .ok (.invokevirtual 181, 3) := by decide +kernel
theorem d_MD_value_17 : decode M_MD_value.2.1 17 = .ok (.lstore_n 2, 1) := by decide +kernel
theorem d_MD_value_18 : decode M_MD_value.2.1 18 = .ok (.aload_n 0, 1) := by decide +kernel
theorem d_MD_value_19 : decode M_MD_value.2.1 19 = .ok (.getfield 158, 3) := by decide +kernel
theorem d_MD_value_22 : decode M_MD_value.2.1 22 = .ok (.ifCond .eq 7, 3) := by decide +kernel
theorem d_MD_value_25 : decode M_MD_value.2.1 25 = .ok (.lload_n 2, 1) := by decide +kernel
theorem d_MD_value_26 : decode M_MD_value.2.1 26 = .ok (.goto 6, 3) := by decide +kernel
theorem d_MD_value_29 : decode M_MD_value.2.1 29 = .ok (.ldc2_w 184, 3) := by decide +kernel
theorem d_MD_value_32 : decode M_MD_value.2.1 32 = .ok (.lreturn, 1) := by decide +kernel
theorem d_MD_units_0 : decode M_MD_units.2.1 0 = .ok (.aload_n 0, 1) := by decide +kernel
theorem d_MD_units_1 : decode M_MD_units.2.1 1 = .ok (.iconst 1, 1) := by decide +kernel
theorem d_MD_units_2 : decode M_MD_units.2.1 2 = .ok (.putfield 158, 3) := by decide +kernel
theorem d_MD_units_5 : decode M_MD_units.2.1 5 = .ok (.aload_n 0, 1) := by decide +kernel
theorem d_MD_units_6 : decode M_MD_units.2.1 6 = .ok (.getfield 35, 3) := by decide +kernel
theorem d_MD_units_9 : decode M_MD_units.2.1 9 = .ok (.iload_n 1, 1) := by decide +kernel
theorem d_MD_units_10 : decode M_MD_units.2.1 10 = .ok (.baload, 1) := by decide +kernel
theorem d_MD_units_11 : decode M_MD_units.2.1 11 = .ok (.ifCond .eq 9, 3) := by decide +kernel
theorem d_MD_units_14 : decode M_MD_units.2.1 14 = .ok (.aload_n 0, 1) := by decide +kernel
theorem d_MD_units_15 : decode M_MD_units.2.1 15 = .ok (.iload_n 1, 1) := by decide +kernel
theorem d_MD_units_16 : decode M_MD_units.2.1 16 = .ok (.invokevirtual 168, 3) := by decide +kernel
theorem d_MD_units_19 : decode M_MD_units.2.1 19 = .ok (.lreturn, 1) := by decide +kernel
theorem d_MD_units_20 : decode M_MD_units.2.1 20 = .ok (.aload_n 0, 1) := by decide +kernel
theorem d_MD_units_21 : decode M_MD_units.2.1 21 = .ok (.getfield 25, 3) := by decide +kernel
theorem d_MD_units_24 : decode M_MD_units.2.1 24 = .ok (.iload_n 1, 1) := by decide +kernel
theorem d_MD_units_25 : decode M_MD_units.2.1 25 = .ok (.iaload, 1) := by decide +kernel
theorem d_MD_units_26 : decode M_MD_units.2.1 26 = .ok (.istore_n 2, 1) := by decide +kernel
theorem d_MD_units_27 : decode M_MD_units.2.1 27 = .ok (.aload_n 0, 1) := by decide +kernel
theorem d_MD_units_28 : decode M_MD_units.2.1 28 = .ok (.getfield 22, 3) := by decide +kernel
theorem d_MD_units_31 : decode M_MD_units.2.1 31 = .ok (.iload_n 1, 1) := by decide +kernel
theorem d_MD_units_32 : decode M_MD_units.2.1 32 = .ok (.iaload, 1) := by decide +kernel
theorem d_MD_units_33 : decode M_MD_units.2.1 33 = .ok (.iconst 1, 1) := by decide +kernel
theorem d_MD_units_34 : decode M_MD_units.2.1 34 = .ok (.if_icmp .ne 12, 3) := by decide +kernel
theorem d_MD_units_37 : decode M_MD_units.2.1 37 = .ok (.aload_n 0, 1) := by decide +kernel
theorem d_MD_units_38 : decode M_MD_units.2.1 38 = .ok (.iload_n 1, 1) := by decide +kernel
theorem d_MD_units_39 : decode M_MD_units.2.1 39 = .ok (.iload_n 2, 1) := by decide +kernel
theorem d_MD_units_40 : decode M_MD_units.2.1 40 = .ok (.invokevirtual 171, 3) := by decide +kernel
theorem d_MD_units_43 : decode M_MD_units.2.1 43 = .ok (.goto 28, 3) := by decide +kernel
theorem d_MD_units_46 : decode M_MD_units.2.1 46 = .ok (.aload_n 0, 1) := by decide +kernel
theorem d_MD_units_47 : decode M_MD_units.2.1 47 = .ok (.getfield 22, 3) := by decide +kernel
theorem d_MD_units_50 : decode M_MD_units.2.1 50 = .ok (.iload_n 1, 1) := by decide +kernel
theorem d_MD_units_51 : decode M_MD_units.2.1 51 = .ok (.iaload, 1) := by decide +kernel
theorem d_MD_units_52 : decode M_MD_units.2.1 52 = .ok (.iconst 3, 1) := by decide +kernel
theorem d_MD_units_53 : decode M_MD_units.2.1 53 = .ok (.if_icmp .ne 12, 3) := by decide +kernel
theorem d_MD_units_56 : decode M_MD_units.2.1 56 = .ok (.aload_n 0, 1) := by decide +kernel
theorem d_MD_units_57 : decode M_MD_units.2.1 57 = .ok (.iload_n 1, 1) := by decide +kernel
theorem d_MD_units_58 : decode M_MD_units.2.1 58 = .ok (.iload_n 2, 1) := by decide +kernel
theorem d_MD_units_59 : decode M_MD_units.2.1 59 = .ok (.invokevirtual 175, 3) := by decide +kernel
theorem d_MD_units_62 : decode M_MD_units.2.1 62 = .ok (.goto 9, 3) := by decide +kernel
theorem d_MD_units_65 : decode M_MD_units.2.1 65 = .ok (.aload_n 0, 1) := by decide +kernel
theorem d_MD_units_66 : decode M_MD_units.2.1 66 = .ok (.iload_n 1, 1) := by decide +kernel
theorem d_MD_units_67 : decode M_MD_units.2.1 67 = .ok (.iload_n 2, 1) := by decide +kernel
theorem d_MD_units_68 : decode M_MD_units.2.1 68 = .ok (.invokevirtual 178, 3) := by decide +kernel
theorem d_MD_units_71 : decode M_MD_units.2.1 71 = .ok (.lreturn, 1) := by decide +kernel
theorem d_MD_readEdited_0 : decode M_MD_readEdited.2.1 0 = .ok (.lconst 0, 1) := by decide +kernel
theorem d_MD_readEdited_1 : decode M_MD_readEdited.2.1 1 = .ok (.lstore_n 2, 1) := by decide +kernel
theorem d_MD_readEdited_2 : decode M_MD_readEdited.2.1 2 = .ok (.aload_n 0, 1) := by decide +kernel
theorem d_MD_readEdited_3 : decode M_MD_readEdited.2.1 3 = .ok (.getfield 44, 3) := by decide +kernel
theorem d_MD_readEdited_6 : decode M_MD_readEdited.2.1 6 = .ok (.iload_n 1, 1) := by decide +kernel
theorem d_MD_readEdited_7 : decode M_MD_readEdited.2.1 7 = .ok (.iaload, 1) := by decide +kernel
theorem d_MD_readEdited_8 : decode M_MD_readEdited.2.1 8 = .ok (.istore 4, 2) := by decide +kernel
theorem d_MD_readEdited_10 : decode M_MD_readEdited.2.1 10 = .ok (.iload 4, 2) := by decide +kernel
theorem d_MD_readEdited_12 : decode M_MD_readEdited.2.1 12 = .ok (.aload_n 0, 1) := by decide +kernel
theorem d_MD_readEdited_13 : decode M_MD_readEdited.2.1 13 = .ok (.getfield 41, 3) := by decide +kernel
theorem d_MD_readEdited_16 : decode M_MD_readEdited.2.1 16 = .ok (.iload_n 1, 1) := by decide +kernel
theorem d_MD_readEdited_17 : decode M_MD_readEdited.2.1 17 = .ok (.iaload, 1) := by decide +kernel
theorem d_MD_readEdited_18 : decode M_MD_readEdited.2.1 18 = .ok (.aload_n 0, 1) := by decide +kernel
theorem d_MD_readEdited_19 : decode M_MD_readEdited.2.1 19 = .ok (.getfield 47, 3) := by decide +kernel
theorem d_MD_readEdited_22 : decode M_MD_readEdited.2.1 22 = .ok (.iload_n 1, 1) := by decide +kernel
theorem d_MD_readEdited_23 : decode M_MD_readEdited.2.1 23 = .ok (.iaload, 1) := by decide +kernel
theorem d_MD_readEdited_24 : decode M_MD_readEdited.2.1 24 = .ok (.isub, 1) := by decide +kernel
theorem d_MD_readEdited_25 : decode M_MD_readEdited.2.1 25 = .ok (.if_icmp .ge 60, 3) := by decide +kernel
theorem d_MD_readEdited_28 : decode M_MD_readEdited.2.1 28 = .ok (.aload_n 0, 1) := by decide +kernel
theorem d_MD_readEdited_29 : decode M_MD_readEdited.2.1 29 = .ok (.iload_n 1, 1) := by decide +kernel
theorem d_MD_readEdited_30 : decode M_MD_readEdited.2.1 30 = .ok (.iload 4, 2) := by decide +kernel
theorem d_MD_readEdited_32 : decode M_MD_readEdited.2.1 32 = .ok (.invokevirtual 134, 3) := by decide +kernel
theorem d_MD_readEdited_35 : decode M_MD_readEdited.2.1 35 = .ok (.ifCond .eq 44, 3) := by decide +kernel
theorem d_MD_readEdited_38 : decode M_MD_readEdited.2.1 38 = .ok (.aload_n 0, 1) := by decide +kernel
theorem d_MD_readEdited_39 : decode M_MD_readEdited.2.1 39 = .ok (.getfield 7, 3) := by decide +kernel
theorem d_MD_readEdited_42 : decode M_MD_readEdited.2.1 42 = .ok (.aload_n 0, 1) := by decide +kernel
theorem d_MD_readEdited_43 : decode M_MD_readEdited.2.1 43 = .ok (.getfield 19, 3) := by decide +kernel
theorem d_MD_readEdited_46 : decode M_MD_readEdited.2.1 46 = .ok (.iload_n 1, 1) := by decide +kernel
theorem d_MD_readEdited_47 : decode M_MD_readEdited.2.1 47 = .ok (.iaload, 1) := by decide +kernel
theorem d_MD_readEdited_48 : decode M_MD_readEdited.2.1 48 = .ok (.iload 4, 2) := by decide +kernel
theorem d_MD_readEdited_50 : decode M_MD_readEdited.2.1 50 = .ok (.iadd, 1) := by decide +kernel
theorem d_MD_readEdited_51 : decode M_MD_readEdited.2.1 51 = .ok (.iaload, 1) := by decide +kernel
theorem d_MD_readEdited_52 : decode M_MD_readEdited.2.1 52 = .ok (.istore 5, 2) := by decide +kernel
theorem d_MD_readEdited_54 : decode M_MD_readEdited.2.1 54 = .ok (.ldc2_w 129, 3) := by decide +kernel
theorem d_MD_readEdited_57 : decode M_MD_readEdited.2.1 57 = .ok (.lload_n 2, 1) := by decide +kernel
theorem d_MD_readEdited_58 : decode M_MD_readEdited.2.1 58 = .ok (.lmul, 1) := by decide +kernel
theorem d_MD_readEdited_59 : decode M_MD_readEdited.2.1 59 = .ok (.iload 5, 2) := by decide +kernel
theorem d_MD_readEdited_61 : decode M_MD_readEdited.2.1 61 = .ok (.invokestatic 81, 3) := by decide +kernel
theorem d_MD_readEdited_64 : decode M_MD_readEdited.2.1 64 = .ok (.ifCond .eq 11, 3) := by decide +kernel
theorem d_MD_readEdited_67 : decode M_MD_readEdited.2.1 67 = .ok (.iload 5, 2) := by decide +kernel
theorem d_MD_readEdited_69 : decode M_MD_readEdited.2.1 69 = .ok (.bipush 48, 2) := by decide +kernel
theorem d_MD_readEdited_71 : decode M_MD_readEdited.2.1 71 = .ok (.isub, 1) := by decide +kernel
theorem d_MD_readEdited_72 : decode M_MD_readEdited.2.1 72 = .ok (.goto 4, 3) := by decide +kernel
theorem d_MD_readEdited_75 : decode M_MD_readEdited.2.1 75 = .ok (.iconst 0, 1) := by decide +kernel
theorem d_MD_readEdited_76 : decode M_MD_readEdited.2.1 76 = .ok (.i2l, 1) := by decide +kernel
theorem d_MD_readEdited_77 : decode M_MD_readEdited.2.1 77 = .ok (.ladd, 1) := by decide +kernel
theorem d_MD_readEdited_78 : decode M_MD_readEdited.2.1 78 = .ok (.lstore_n 2, 1) := by decide +kernel
theorem d_MD_readEdited_79 : decode M_MD_readEdited.2.1 79 = .ok (.iinc 4 1, 3) := by decide +kernel
theorem d_MD_readEdited_82 : decode M_MD_readEdited.2.1 82 = .ok (.goto (-72), 3) := by decide +kernel
theorem d_MD_readEdited_85 : decode M_MD_readEdited.2.1 85 = .ok (.aload_n 0, 1) := by decide +kernel
theorem d_MD_readEdited_86 : decode M_MD_readEdited.2.1 86 = .ok (.iload_n 1, 1) := by decide +kernel
theorem d_MD_readEdited_87 : decode M_MD_readEdited.2.1 87 = .ok (.lload_n 2, 1) := by decide +kernel
theorem d_MD_readEdited_88 : decode M_MD_readEdited.2.1 88 = .ok (.invokevirtual 154, 3) := by decide +kernel
theorem d_MD_readEdited_91 : decode M_MD_readEdited.2.1 91 = .ok (.istore 4, 2) := by decide +kernel
theorem d_MD_readEdited_93 : decode M_MD_readEdited.2.1 93 = .ok (.aload_n 0, 1) := by decide +kernel
theorem d_MD_readEdited_94 : decode M_MD_readEdited.2.1 94 = .ok (.getfield 31, 3) := by decide +kernel
theorem d_MD_readEdited_97 : decode M_MD_readEdited.2.1 97 = .ok (.iload_n 1, 1) := by decide +kernel
theorem d_MD_readEdited_98 : decode M_MD_readEdited.2.1 98 = .ok (.baload, 1) := by decide +kernel
theorem d_MD_readEdited_99 : decode M_MD_readEdited.2.1 99 = .ok (.ifCond .eq 17, 3) := by decide +kernel
theorem d_MD_readEdited_102 : decode M_MD_readEdited.2.1 102 = .ok (.aload_n 0, 1) := by decide +kernel
theorem d_MD_readEdited_103 : decode M_MD_readEdited.2.1 103 = .ok (.iload_n 1, 1) := by decide +kernel
theorem d_MD_readEdited_104 : decode M_MD_readEdited.2.1 104 = .ok (.lload_n 2, 1) := by decide +kernel
theorem d_MD_readEdited_105 : decode M_MD_readEdited.2.1 105 = .ok (.lneg, 1) := by decide +kernel
theorem d_MD_readEdited_106 : decode M_MD_readEdited.2.1 106 = .ok (.invokevirtual 154, 3) := by decide +kernel
theorem d_MD_readEdited_109 : decode M_MD_readEdited.2.1 109 = .ok (.ifCond .eq 7, 3) := by decide +kernel
theorem d_MD_readEdited_112 : decode M_MD_readEdited.2.1 112 = .ok (.iconst 1, 1) := by decide +kernel
theorem d_MD_readEdited_113 : decode M_MD_readEdited.2.1 113 = .ok (.goto 4, 3) := by decide +kernel
theorem d_MD_readEdited_116 : decode M_MD_readEdited.2.1 116 = .ok (.iconst 0, 1) := by decide +kernel
theorem d_MD_readEdited_117 : decode M_MD_readEdited.2.1 117 = .ok (.istore 5, 2) := by decide +kernel
theorem d_MD_readEdited_119 : decode M_MD_readEdited.2.1 119 = .ok (.aload_n 0, 1) := by decide +kernel
theorem d_MD_readEdited_120 : decode M_MD_readEdited.2.1 120 = .ok (.iload 4, 2) := by decide +kernel
theorem d_MD_readEdited_122 : decode M_MD_readEdited.2.1 122 = .ok (.ifCond .ne 8, 3) := by decide +kernel
theorem d_MD_readEdited_125 : decode M_MD_readEdited.2.1 125 = .ok (.iload 5, 2) := by decide +kernel
theorem d_MD_readEdited_127 : decode M_MD_readEdited.2.1 127 = .ok (.ifCond .eq 7, 3) := by decide +kernel
theorem d_MD_readEdited_130 : decode M_MD_readEdited.2.1 130 = .ok (.iconst 1, 1) := by decide +kernel
theorem d_MD_readEdited_131 : decode M_MD_readEdited.2.1 131 = .ok (.goto 4, 3) := by decide +kernel
theorem d_MD_readEdited_134 : decode M_MD_readEdited.2.1 134 = .ok (.iconst 0, 1) := by decide +kernel
theorem d_MD_readEdited_135 : decode M_MD_readEdited.2.1 135 = .ok (.putfield 158, 3) := by decide +kernel
theorem d_MD_readEdited_138 : decode M_MD_readEdited.2.1 138 = .ok (.iload 4, 2) := by decide +kernel
theorem d_MD_readEdited_140 : decode M_MD_readEdited.2.1 140 = .ok (.ifCond .eq 7, 3) := by decide +kernel
theorem d_MD_readEdited_143 : decode M_MD_readEdited.2.1 143 = .ok (.lload_n 2, 1) := by decide +kernel
theorem d_MD_readEdited_144 : decode M_MD_readEdited.2.1 144 = .ok (.goto 5, 3) := by decide +kernel
theorem d_MD_readEdited_147 : decode M_MD_readEdited.2.1 147 = .ok (.lload_n 2, 1) := by decide +kernel
theorem d_MD_readEdited_148 : decode M_MD_readEdited.2.1 148 = .ok (.lneg, 1) := by decide +kernel
theorem d_MD_readEdited_149 : decode M_MD_readEdited.2.1 149 = .ok (.lreturn, 1) := by decide +kernel
theorem d_MD_digitPlace_0 : decode M_MD_digitPlace.2.1 0 = .ok (.aload_n 0, 1) := by decide +kernel
theorem d_MD_digitPlace_1 : decode M_MD_digitPlace.2.1 1 = .ok (.iload_n 1, 1) := by decide +kernel
theorem d_MD_digitPlace_2 : decode M_MD_digitPlace.2.1 2 = .ok (.iload_n 2, 1) := by decide +kernel
theorem d_MD_digitPlace_3 : decode M_MD_digitPlace.2.1 3 = .ok (.invokevirtual 131, 3) := by decide +kernel
theorem d_MD_digitPlace_6 : decode M_MD_digitPlace.2.1 6 = .ok (.istore_n 3, 1) := by decide +kernel
theorem d_MD_digitPlace_7 : decode M_MD_digitPlace.2.1 7 = .ok (.iconst 0, 1) := by decide +kernel
theorem d_MD_digitPlace_8 : decode M_MD_digitPlace.2.1 8 = .ok (.istore 4, 2) := by decide +kernel
theorem d_MD_digitPlace_10 : decode M_MD_digitPlace.2.1 10 = .ok (.aload_n 0, 1) := by decide +kernel
theorem d_MD_digitPlace_11 : decode M_MD_digitPlace.2.1 11 = .ok (.getfield 44, 3) := by decide +kernel
theorem d_MD_digitPlace_14 : decode M_MD_digitPlace.2.1 14 = .ok (.iload_n 1, 1) := by decide +kernel
theorem d_MD_digitPlace_15 : decode M_MD_digitPlace.2.1 15 = .ok (.iaload, 1) := by decide +kernel
theorem d_MD_digitPlace_16 : decode M_MD_digitPlace.2.1 16 = .ok (.istore 5, 2) := by decide +kernel
theorem d_MD_digitPlace_18 : decode M_MD_digitPlace.2.1 18 = .ok (.iload 5, 2) := by decide +kernel
theorem d_MD_digitPlace_20 : decode M_MD_digitPlace.2.1 20 = .ok (.iload_n 2, 1) := by decide +kernel
theorem d_MD_digitPlace_21 : decode M_MD_digitPlace.2.1 21 = .ok (.if_icmp .ge 32, 3) := by decide +kernel
theorem d_MD_digitPlace_24 : decode M_MD_digitPlace.2.1 24 = .ok (.iload 4, 2) := by decide +kernel
theorem d_MD_digitPlace_26 : decode M_MD_digitPlace.2.1 26 = .ok (.ifCond .ne 14, 3) := by decide +kernel
theorem d_MD_digitPlace_29 : decode M_MD_digitPlace.2.1 29 = .ok (.aload_n 0, 1) := by decide +kernel
theorem d_MD_digitPlace_30 : decode M_MD_digitPlace.2.1 30 = .ok (.iload_n 1, 1) := by decide +kernel
theorem d_MD_digitPlace_31 : decode M_MD_digitPlace.2.1 31 = .ok (.iload 5, 2) := by decide +kernel
theorem d_MD_digitPlace_33 : decode M_MD_digitPlace.2.1 33 = .ok (.invokevirtual 131, 3) := by decide +kernel
theorem d_MD_digitPlace_36 : decode M_MD_digitPlace.2.1 36 = .ok (.iload_n 3, 1) := by decide +kernel
theorem d_MD_digitPlace_37 : decode M_MD_digitPlace.2.1 37 = .ok (.if_icmp .ne 7, 3) := by decide +kernel
theorem d_MD_digitPlace_40 : decode M_MD_digitPlace.2.1 40 = .ok (.iconst 1, 1) := by decide +kernel
theorem d_MD_digitPlace_41 : decode M_MD_digitPlace.2.1 41 = .ok (.goto 4, 3) := by decide +kernel
theorem d_MD_digitPlace_44 : decode M_MD_digitPlace.2.1 44 = .ok (.iconst 0, 1) := by decide +kernel
theorem d_MD_digitPlace_45 : decode M_MD_digitPlace.2.1 45 = .ok (.istore 4, 2) := by decide +kernel
theorem d_MD_digitPlace_47 : decode M_MD_digitPlace.2.1 47 = .ok (.iinc 5 1, 3) := by decide +kernel
theorem d_MD_digitPlace_50 : decode M_MD_digitPlace.2.1 50 = .ok (.goto (-32), 3) := by decide +kernel
theorem d_MD_digitPlace_53 : decode M_MD_digitPlace.2.1 53 = .ok (.iload_n 3, 1) := by decide +kernel
theorem d_MD_digitPlace_54 : decode M_MD_digitPlace.2.1 54 = .ok (.bipush 57, 2) := by decide +kernel
theorem d_MD_digitPlace_56 : decode M_MD_digitPlace.2.1 56 = .ok (.if_icmp .eq 27, 3) := by decide +kernel
theorem d_MD_digitPlace_59 : decode M_MD_digitPlace.2.1 59 = .ok (.iload_n 3, 1) := by decide +kernel
theorem d_MD_digitPlace_60 : decode M_MD_digitPlace.2.1 60 = .ok (.bipush 90, 2) := by decide +kernel
theorem d_MD_digitPlace_62 : decode M_MD_digitPlace.2.1 62 = .ok (.if_icmp .eq 21, 3) := by decide +kernel
theorem d_MD_digitPlace_65 : decode M_MD_digitPlace.2.1 65 = .ok (.iload_n 3, 1) := by decide +kernel
theorem d_MD_digitPlace_66 : decode M_MD_digitPlace.2.1 66 = .ok (.bipush 42, 2) := by decide +kernel
theorem d_MD_digitPlace_68 : decode M_MD_digitPlace.2.1 68 = .ok (.if_icmp .eq 15, 3) := by decide +kernel
theorem d_MD_digitPlace_71 : decode M_MD_digitPlace.2.1 71 = .ok (.iload_n 3, 1) := by decide +kernel
theorem d_MD_digitPlace_72 : decode M_MD_digitPlace.2.1 72 = .ok (.invokestatic 65, 3) := by decide +kernel
theorem d_MD_digitPlace_75 : decode M_MD_digitPlace.2.1 75 = .ok (.ifCond .eq 12, 3) := by decide +kernel
theorem d_MD_digitPlace_78 : decode M_MD_digitPlace.2.1 78 = .ok (.iload 4, 2) := by decide +kernel
theorem d_MD_digitPlace_80 : decode M_MD_digitPlace.2.1 80 = .ok (.ifCond .eq 7, 3) := by decide +kernel
theorem d_MD_digitPlace_83 : decode M_MD_digitPlace.2.1 83 = .ok (.iconst 1, 1) := by decide +kernel
theorem d_MD_digitPlace_84 : decode M_MD_digitPlace.2.1 84 = .ok (.goto 4, 3) := by decide +kernel
theorem d_MD_digitPlace_87 : decode M_MD_digitPlace.2.1 87 = .ok (.iconst 0, 1) := by decide +kernel
theorem d_MD_digitPlace_88 : decode M_MD_digitPlace.2.1 88 = .ok (.ireturn, 1) := by decide +kernel
theorem d_MD_symbolAt_0 : decode M_MD_symbolAt.2.1 0 = .ok (.aload_n 0, 1) := by decide +kernel
theorem d_MD_symbolAt_1 : decode M_MD_symbolAt.2.1 1 = .ok (.getfield 38, 3) := by decide +kernel
theorem d_MD_symbolAt_4 : decode M_MD_symbolAt.2.1 4 = .ok (.bipush 18, 2) := by decide +kernel
theorem d_MD_symbolAt_6 : decode M_MD_symbolAt.2.1 6 = .ok (.iload_n 1, 1) := by decide +kernel
theorem d_MD_symbolAt_7 : decode M_MD_symbolAt.2.1 7 = .ok (.imul, 1) := by decide +kernel
theorem d_MD_symbolAt_8 : decode M_MD_symbolAt.2.1 8 = .ok (.iload_n 2, 1) := by decide +kernel
theorem d_MD_symbolAt_9 : decode M_MD_symbolAt.2.1 9 = .ok (.iadd, 1) := by decide +kernel
theorem d_MD_symbolAt_10 : decode M_MD_symbolAt.2.1 10 = .ok (.iaload, 1) := by decide +kernel
theorem d_MD_symbolAt_11 : decode M_MD_symbolAt.2.1 11 = .ok (.ireturn, 1) := by decide +kernel
theorem d_MD_shows_0 : decode M_MD_shows.2.1 0 = .ok (.aload_n 0, 1) := by decide +kernel
theorem d_MD_shows_1 : decode M_MD_shows.2.1 1 = .ok (.iload_n 1, 1) := by decide +kernel
theorem d_MD_shows_2 : decode M_MD_shows.2.1 2 = .ok (.lload_n 2, 1) := by decide +kernel
theorem d_MD_shows_3 : decode M_MD_shows.2.1 3 = .ok (.invokevirtual 150, 3) := by decide +kernel
theorem d_MD_shows_6 : decode M_MD_shows.2.1 6 = .ok (.iconst 1, 1) := by decide +kernel
theorem d_MD_shows_7 : decode M_MD_shows.2.1 7 = .ok (.istore 4, 2) := by decide +kernel
theorem d_MD_shows_9 : decode M_MD_shows.2.1 9 = .ok (.iconst 0, 1) := by decide +kernel
theorem d_MD_shows_10 : decode M_MD_shows.2.1 10 = .ok (.istore 5, 2) := by decide +kernel
theorem d_MD_shows_12 : decode M_MD_shows.2.1 12 = .ok (.iload 5, 2) := by decide +kernel
theorem d_MD_shows_14 : decode M_MD_shows.2.1 14 = .ok (.aload_n 0, 1) := by decide +kernel
theorem d_MD_shows_15 : decode M_MD_shows.2.1 15 = .ok (.getfield 41, 3) := by decide +kernel
theorem d_MD_shows_18 : decode M_MD_shows.2.1 18 = .ok (.iload_n 1, 1) := by decide +kernel
theorem d_MD_shows_19 : decode M_MD_shows.2.1 19 = .ok (.iaload, 1) := by decide +kernel
theorem d_MD_shows_20 : decode M_MD_shows.2.1 20 = .ok (.if_icmp .ge 45, 3) := by decide +kernel
theorem d_MD_shows_23 : decode M_MD_shows.2.1 23 = .ok (.iload 4, 2) := by decide +kernel
theorem d_MD_shows_25 : decode M_MD_shows.2.1 25 = .ok (.ifCond .eq 31, 3) := by decide +kernel
theorem d_MD_shows_28 : decode M_MD_shows.2.1 28 = .ok (.aload_n 0, 1) := by decide +kernel
theorem d_MD_shows_29 : decode M_MD_shows.2.1 29 = .ok (.getfield 7, 3) := by decide +kernel
theorem d_MD_shows_32 : decode M_MD_shows.2.1 32 = .ok (.aload_n 0, 1) := by decide +kernel
theorem d_MD_shows_33 : decode M_MD_shows.2.1 33 = .ok (.getfield 19, 3) := by decide +kernel
theorem d_MD_shows_36 : decode M_MD_shows.2.1 36 = .ok (.iload_n 1, 1) := by decide +kernel
theorem d_MD_shows_37 : decode M_MD_shows.2.1 37 = .ok (.iaload, 1) := by decide +kernel
theorem d_MD_shows_38 : decode M_MD_shows.2.1 38 = .ok (.iload 5, 2) := by decide +kernel
theorem d_MD_shows_40 : decode M_MD_shows.2.1 40 = .ok (.iadd, 1) := by decide +kernel
theorem d_MD_shows_41 : decode M_MD_shows.2.1 41 = .ok (.iaload, 1) := by decide +kernel
theorem d_MD_shows_42 : decode M_MD_shows.2.1 42 = .ok (.aload_n 0, 1) := by decide +kernel
theorem d_MD_shows_43 : decode M_MD_shows.2.1 43 = .ok (.getfield 50, 3) := by decide +kernel
theorem d_MD_shows_46 : decode M_MD_shows.2.1 46 = .ok (.iload 5, 2) := by decide +kernel
theorem d_MD_shows_48 : decode M_MD_shows.2.1 48 = .ok (.iaload, 1) := by decide +kernel
theorem d_MD_shows_49 : decode M_MD_shows.2.1 49 = .ok (.if_icmp .ne 7, 3) := by decide +kernel
theorem d_MD_shows_52 : decode M_MD_shows.2.1 52 = .ok (.iconst 1, 1) := by decide +kernel
theorem d_MD_shows_53 : decode M_MD_shows.2.1 53 = .ok (.goto 4, 3) := by decide +kernel
theorem d_MD_shows_56 : decode M_MD_shows.2.1 56 = .ok (.iconst 0, 1) := by decide +kernel
theorem d_MD_shows_57 : decode M_MD_shows.2.1 57 = .ok (.istore 4, 2) := by decide +kernel
theorem d_MD_shows_59 : decode M_MD_shows.2.1 59 = .ok (.iinc 5 1, 3) := by decide +kernel
theorem d_MD_shows_62 : decode M_MD_shows.2.1 62 = .ok (.goto (-50), 3) := by decide +kernel
theorem d_MD_shows_65 : decode M_MD_shows.2.1 65 = .ok (.iload 4, 2) := by decide +kernel
theorem d_MD_shows_67 : decode M_MD_shows.2.1 67 = .ok (.ireturn, 1) := by decide +kernel
theorem d_MD_show_0 : decode M_MD_show.2.1 0 = .ok (.lload_n 2, 1) := by decide +kernel
theorem d_MD_show_1 : decode M_MD_show.2.1 1 = .ok (.lconst 0, 1) := by decide +kernel
theorem d_MD_show_2 : decode M_MD_show.2.1 2 = .ok (.lcmp, 1) := by decide +kernel
theorem d_MD_show_3 : decode M_MD_show.2.1 3 = .ok (.ifCond .ge 7, 3) := by decide +kernel
theorem d_MD_show_6 : decode M_MD_show.2.1 6 = .ok (.iconst 1, 1) := by decide +kernel
theorem d_MD_show_7 : decode M_MD_show.2.1 7 = .ok (.goto 4, 3) := by decide +kernel
theorem d_MD_show_10 : decode M_MD_show.2.1 10 = .ok (.iconst 0, 1) := by decide +kernel
theorem d_MD_show_11 : decode M_MD_show.2.1 11 = .ok (.istore 4, 2) := by decide +kernel
theorem d_MD_show_13 : decode M_MD_show.2.1 13 = .ok (.iload 4, 2) := by decide +kernel
theorem d_MD_show_15 : decode M_MD_show.2.1 15 = .ok (.ifCond .eq 8, 3) := by decide +kernel
theorem d_MD_show_18 : decode M_MD_show.2.1 18 = .ok (.lload_n 2, 1) := by decide +kernel
theorem d_MD_show_19 : decode M_MD_show.2.1 19 = .ok (.lneg, 1) := by decide +kernel
theorem d_MD_show_20 : decode M_MD_show.2.1 20 = .ok (.goto 4, 3) := by decide +kernel
theorem d_MD_show_23 : decode M_MD_show.2.1 23 = .ok (.lload_n 2, 1) := by decide +kernel
theorem d_MD_show_24 : decode M_MD_show.2.1 24 = .ok (.lstore 5, 2) := by decide +kernel
theorem d_MD_show_26 : decode M_MD_show.2.1 26 = .ok (.aload_n 0, 1) := by decide +kernel
theorem d_MD_show_27 : decode M_MD_show.2.1 27 = .ok (.getfield 44, 3) := by decide +kernel
theorem d_MD_show_30 : decode M_MD_show.2.1 30 = .ok (.iload_n 1, 1) := by decide +kernel
theorem d_MD_show_31 : decode M_MD_show.2.1 31 = .ok (.iaload, 1) := by decide +kernel
theorem d_MD_show_32 : decode M_MD_show.2.1 32 = .ok (.istore 7, 2) := by decide +kernel
theorem d_MD_show_34 : decode M_MD_show.2.1 34 = .ok (.aload_n 0, 1) := by decide +kernel
theorem d_MD_show_35 : decode M_MD_show.2.1 35 = .ok (.getfield 41, 3) := by decide +kernel
theorem d_MD_show_38 : decode M_MD_show.2.1 38 = .ok (.iload_n 1, 1) := by decide +kernel
theorem d_MD_show_39 : decode M_MD_show.2.1 39 = .ok (.iaload, 1) := by decide +kernel
theorem d_MD_show_40 : decode M_MD_show.2.1 40 = .ok (.aload_n 0, 1) := by decide +kernel
theorem d_MD_show_41 : decode M_MD_show.2.1 41 = .ok (.getfield 47, 3) := by decide +kernel
theorem d_MD_show_44 : decode M_MD_show.2.1 44 = .ok (.iload_n 1, 1) := by decide +kernel
theorem d_MD_show_45 : decode M_MD_show.2.1 45 = .ok (.iaload, 1) := by decide +kernel
theorem d_MD_show_46 : decode M_MD_show.2.1 46 = .ok (.isub, 1) := by decide +kernel
theorem d_MD_show_47 : decode M_MD_show.2.1 47 = .ok (.istore 8, 2) := by decide +kernel
theorem d_MD_show_49 : decode M_MD_show.2.1 49 = .ok (.iload 8, 2) := by decide +kernel
theorem d_MD_show_51 : decode M_MD_show.2.1 51 = .ok (.istore 9, 2) := by decide +kernel
theorem d_MD_show_53 : decode M_MD_show.2.1 53 = .ok (.iload 8, 2) := by decide +kernel
theorem d_MD_show_55 : decode M_MD_show.2.1 55 = .ok (.iconst 1, 1) := by decide +kernel
theorem d_MD_show_56 : decode M_MD_show.2.1 56 = .ok (.isub, 1) := by decide +kernel
theorem d_MD_show_57 : decode M_MD_show.2.1 57 = .ok (.istore 10, 2) := by decide +kernel
theorem d_MD_show_59 : decode M_MD_show.2.1 59 = .ok (.iload 10, 2) := by decide +kernel
theorem d_MD_show_61 : decode M_MD_show.2.1 61 = .ok (.iload 7, 2) := by decide +kernel
theorem d_MD_show_63 : decode M_MD_show.2.1 63 = .ok (.if_icmp .lt 75, 3) := by decide +kernel
theorem d_MD_show_66 : decode M_MD_show.2.1 66 = .ok (.aload_n 0, 1) := by decide +kernel
theorem d_MD_show_67 : decode M_MD_show.2.1 67 = .ok (.iload_n 1, 1) := by decide +kernel
theorem d_MD_show_68 : decode M_MD_show.2.1 68 = .ok (.iload 10, 2) := by decide +kernel
theorem d_MD_show_70 : decode M_MD_show.2.1 70 = .ok (.invokevirtual 131, 3) := by decide +kernel
theorem d_MD_show_73 : decode M_MD_show.2.1 73 = .ok (.istore 11, 2) := by decide +kernel
theorem d_MD_show_75 : decode M_MD_show.2.1 75 = .ok (.iload 11, 2) := by decide +kernel
theorem d_MD_show_77 : decode M_MD_show.2.1 77 = .ok (.bipush 57, 2) := by decide +kernel
theorem d_MD_show_79 : decode M_MD_show.2.1 79 = .ok (.if_icmp .eq 32, 3) := by decide +kernel
theorem d_MD_show_82 : decode M_MD_show.2.1 82 = .ok (.iload 11, 2) := by decide +kernel
theorem d_MD_show_84 : decode M_MD_show.2.1 84 = .ok (.bipush 46, 2) := by decide +kernel
theorem d_MD_show_86 : decode M_MD_show.2.1 86 = .ok (.if_icmp .eq 25, 3) := by decide +kernel
theorem d_MD_show_89 : decode M_MD_show.2.1 89 = .ok (.aload_n 0, 1) := by decide +kernel
theorem d_MD_show_90 : decode M_MD_show.2.1 90 = .ok (.iload_n 1, 1) := by decide +kernel
theorem d_MD_show_91 : decode M_MD_show.2.1 91 = .ok (.iload 10, 2) := by decide +kernel
theorem d_MD_show_93 : decode M_MD_show.2.1 93 = .ok (.invokevirtual 134, 3) := by decide +kernel
theorem d_MD_show_96 : decode M_MD_show.2.1 96 = .ok (.ifCond .eq 19, 3) := by decide +kernel
theorem d_MD_show_99 : decode M_MD_show.2.1 99 = .ok (.aload_n 0, 1) := by decide +kernel
theorem d_MD_show_100 : decode M_MD_show.2.1 100 = .ok (.iload_n 1, 1) := by decide +kernel
theorem d_MD_show_101 : decode M_MD_show.2.1 101 = .ok (.iload 10, 2) := by decide +kernel
theorem d_MD_show_103 : decode M_MD_show.2.1 103 = .ok (.lload 5, 2) := by decide +kernel
theorem d_MD_show_105 : decode M_MD_show.2.1 105 = .ok (.invokevirtual 142, 3) := by decide +kernel
theorem d_MD_show_108 : decode M_MD_show.2.1 108 = .ok (.ifCond .eq 7, 3) := by decide +kernel
theorem d_MD_show_111 : decode M_MD_show.2.1 111 = .ok (.iconst 1, 1) := by decide +kernel
theorem d_MD_show_112 : decode M_MD_show.2.1 112 = .ok (.goto 4, 3) := by decide +kernel
theorem d_MD_show_115 : decode M_MD_show.2.1 115 = .ok (.iconst 0, 1) := by decide +kernel
theorem d_MD_show_116 : decode M_MD_show.2.1 116 = .ok (.istore 12, 2) := by decide +kernel
theorem d_MD_show_118 : decode M_MD_show.2.1 118 = .ok (.iload 12, 2) := by decide +kernel
theorem d_MD_show_120 : decode M_MD_show.2.1 120 = .ok (.ifCond .eq 8, 3) := by decide +kernel
theorem d_MD_show_123 : decode M_MD_show.2.1 123 = .ok (.iload 10, 2) := by decide +kernel
theorem d_MD_show_125 : decode M_MD_show.2.1 125 = .ok (.goto 5, 3) := by decide +kernel
theorem d_MD_show_128 : decode M_MD_show.2.1 128 = .ok (.iload 9, 2) := by decide +kernel
theorem d_MD_show_130 : decode M_MD_show.2.1 130 = .ok (.istore 9, 2) := by decide +kernel
theorem d_MD_show_132 : decode M_MD_show.2.1 132 = .ok (.iinc 10 (-1), 3) := by decide +kernel
theorem d_MD_show_135 : decode M_MD_show.2.1 135 = .ok (.goto (-76), 3) := by decide +kernel
theorem d_MD_show_138 : decode M_MD_show.2.1 138 = .ok (.aload_n 0, 1) := by decide +kernel
theorem d_MD_show_139 : decode M_MD_show.2.1 139 = .ok (.iload_n 1, 1) := by decide +kernel
theorem d_MD_show_140 : decode M_MD_show.2.1 140 = .ok (.iload 7, 2) := by decide +kernel
theorem d_MD_show_142 : decode M_MD_show.2.1 142 = .ok (.invokevirtual 131, 3) := by decide +kernel
theorem d_MD_show_145 : decode M_MD_show.2.1 145 = .ok (.istore 10, 2) := by decide +kernel
theorem d_MD_show_147 : decode M_MD_show.2.1 147 = .ok (.iconst 0, 1) := by decide +kernel
theorem d_MD_show_148 : decode M_MD_show.2.1 148 = .ok (.istore 11, 2) := by decide +kernel
theorem d_MD_show_150 : decode M_MD_show.2.1 150 = .ok (.iload 11, 2) := by decide +kernel
theorem d_MD_show_152 : decode M_MD_show.2.1 152 = .ok (.aload_n 0, 1) := by decide +kernel
