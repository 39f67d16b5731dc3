theorem d_PR_move_28 : decode M_PR_move.2.1 28 = .ok (.aload_n 3, 1) := by decide +kernel
theorem d_PR_move_29 : decode M_PR_move.2.1 29 = .ok (.invokevirtual 89, 3) := by decide +kernel
theorem d_PR_move_32 : decode M_PR_move.2.1 32 = .ok (.lstore 5, 2) := by decide +kernel
theorem d_PR_move_34 : decode M_PR_move.2.1 34 = .ok (.lload 5, 2) := by decide +kernel
theorem d_PR_move_36 : decode M_PR_move.2.1 36 = .ok (.ldc2_w 87, 3) := by decide +kernel
theorem d_PR_move_39 : decode M_PR_move.2.1 39 = .ok (.lcmp, 1) := by decide +kernel
theorem d_PR_move_40 : decode M_PR_move.2.1 40 = .ok (.ifCond .ne 8, 3) := by decide +kernel
theorem d_PR_move_43 : decode M_PR_move.2.1 43 = .ok (.aload_n 0, 1) := by decide +kernel
theorem d_PR_move_44 : decode M_PR_move.2.1 44 = .ok (.invokevirtual 97, 3) := by decide +kernel
theorem d_PR_move_47 : decode M_PR_move.2.1 47 = .ok (.ireturn, 1) := by decide +kernel
theorem d_PR_move_48 : decode M_PR_move.2.1 48 = .ok (.aload_n 0, 1) := by decide +kernel
theorem d_PR_move_49 : decode M_PR_move.2.1 49 = .ok (.aload 4, 2) := by decide +kernel
theorem d_PR_move_51 : decode M_PR_move.2.1 51 = .ok (.lload 5, 2) := by decide +kernel
theorem d_PR_move_53 : decode M_PR_move.2.1 53 = .ok (.aload_n 3, 1) := by decide +kernel
theorem d_PR_move_54 : decode M_PR_move.2.1 54 = .ok (.getfield 69, 3) := by decide +kernel
theorem d_PR_move_57 : decode M_PR_move.2.1 57 = .ok (.invokevirtual 93, 3) := by decide +kernel
theorem d_PR_move_60 : decode M_PR_move.2.1 60 = .ok (.iconst 0, 1) := by decide +kernel
theorem d_PR_move_61 : decode M_PR_move.2.1 61 = .ok (.ireturn, 1) := by decide +kernel
theorem d_PR_dataError_0 : decode M_PR_dataError.2.1 0 = .ok (.aload_n 0, 1) := by decide +kernel
theorem d_PR_dataError_1 : decode M_PR_dataError.2.1 1 = .ok (.dup, 1) := by decide +kernel
theorem d_PR_dataError_2 : decode M_PR_dataError.2.1 2 = .ok (.getfield 141, 3) := by decide +kernel
theorem d_PR_dataError_5 : decode M_PR_dataError.2.1 5 = .ok (.iconst 1, 1) := by decide +kernel
theorem d_PR_dataError_6 : decode M_PR_dataError.2.1 6 = .ok (.iadd, 1) := by decide +kernel
theorem d_PR_dataError_7 : decode M_PR_dataError.2.1 7 = .ok (.putfield 141, 3) := by decide +kernel
theorem d_PR_dataError_10 : decode M_PR_dataError.2.1 10 = .ok (.bipush (-2), 2) := by decide +kernel
theorem d_PR_dataError_12 : decode M_PR_dataError.2.1 12 = .ok (.ireturn, 1) := by decide +kernel
theorem d_PR_compute_0 : decode M_PR_compute.2.1 0 = .ok (.aload_n 0, 1) := by decide +kernel
theorem d_PR_compute_1 : decode M_PR_compute.2.1 1 = .ok (.iload_n 2, 1) := by decide +kernel
theorem d_PR_compute_2 : decode M_PR_compute.2.1 2 = .ok (.invokevirtual 59, 3) := by decide +kernel
theorem d_PR_compute_5 : decode M_PR_compute.2.1 5 = .ok (.astore 6, 2) := by decide +kernel
theorem d_PR_compute_7 : decode M_PR_compute.2.1 7 = .ok (.aload_n 0, 1) := by decide +kernel
theorem d_PR_compute_8 : decode M_PR_compute.2.1 8 = .ok (.iload_n 3, 1) := by decide +kernel
theorem d_PR_compute_9 : decode M_PR_compute.2.1 9 = .ok (.invokevirtual 59, 3) := by decide +kernel
theorem d_PR_compute_12 : decode M_PR_compute.2.1 12 = .ok (.astore 7, 2) := by decide +kernel
theorem d_PR_compute_14 : decode M_PR_compute.2.1 14 = .ok (.aload_n 0, 1) := by decide +kernel
theorem d_PR_compute_15 : decode M_PR_compute.2.1 15 = .ok (.iload 4, 2) := by decide +kernel
theorem d_PR_compute_17 : decode M_PR_compute.2.1 17 = .ok (.invokevirtual 59, 3) := by decide +kernel
theorem d_PR_compute_20 : decode M_PR_compute.2.1 20 = .ok (.astore 8, 2) := by decide +kernel
theorem d_PR_compute_22 : decode M_PR_compute.2.1 22 = .ok (.iload_n 1, 1) := by decide +kernel
theorem d_PR_compute_23 : decode M_PR_compute.2.1 23 = .ok (.invokestatic 101, 3) := by decide +kernel
theorem d_PR_compute_26 : decode M_PR_compute.2.1 26 = .ok (.ifCond .eq 32, 3) := by decide +kernel
theorem d_PR_compute_29 : decode M_PR_compute.2.1 29 = .ok (.iload 5, 2) := by decide +kernel
theorem d_PR_compute_31 : decode M_PR_compute.2.1 31 = .ok (.invokestatic 104, 3) := by decide +kernel
theorem d_PR_compute_34 : decode M_PR_compute.2.1 34 = .ok (.ifCond .eq 24, 3) := by decide +kernel
theorem d_PR_compute_37 : decode M_PR_compute.2.1 37 = .ok (.aload 6, 2) := by decide +kernel
theorem d_PR_compute_39 : decode M_PR_compute.2.1 39 = .ok (.invokestatic 107, 3) := by decide +kernel
theorem d_PR_compute_42 : decode M_PR_compute.2.1 42 = .ok (.ifCond .eq 16, 3) := by decide +kernel
theorem d_PR_compute_45 : decode M_PR_compute.2.1 45 = .ok (.aload 7, 2) := by decide +kernel
theorem d_PR_compute_47 : decode M_PR_compute.2.1 47 = .ok (.invokestatic 107, 3) := by decide +kernel
theorem d_PR_compute_50 : decode M_PR_compute.2.1 50 = .ok (.ifCond .eq 8, 3) := by decide +kernel
theorem d_PR_compute_53 : decode M_PR_compute.2.1 53 = .ok (.aload 8, 2) := by decide +kernel
theorem d_PR_compute_55 : decode M_PR_compute.2.1 55 = .ok (.ifnonnull 5, 3) := by decide +kernel
theorem d_PR_compute_58 : decode M_PR_compute.2.1 58 = .ok (.iconst (-1), 1) := by decide +kernel
theorem d_PR_compute_59 : decode M_PR_compute.2.1 59 = .ok (.ireturn, 1) := by decide +kernel
theorem d_PR_compute_60 : decode M_PR_compute.2.1 60 = .ok (.aload_n 0, 1) := by decide +kernel
theorem d_PR_compute_61 : decode M_PR_compute.2.1 61 = .ok (.getfield 29, 3) := by decide +kernel
theorem d_PR_compute_64 : decode M_PR_compute.2.1 64 = .ok (.aload 6, 2) := by decide +kernel
theorem d_PR_compute_66 : decode M_PR_compute.2.1 66 = .ok (.invokevirtual 89, 3) := by decide +kernel
theorem d_PR_compute_69 : decode M_PR_compute.2.1 69 = .ok (.lstore 9, 2) := by decide +kernel
theorem d_PR_compute_71 : decode M_PR_compute.2.1 71 = .ok (.aload_n 0, 1) := by decide +kernel
theorem d_PR_compute_72 : decode M_PR_compute.2.1 72 = .ok (.getfield 29, 3) := by decide +kernel
theorem d_PR_compute_75 : decode M_PR_compute.2.1 75 = .ok (.aload 7, 2) := by decide +kernel
theorem d_PR_compute_77 : decode M_PR_compute.2.1 77 = .ok (.invokevirtual 89, 3) := by decide +kernel
theorem d_PR_compute_80 : decode M_PR_compute.2.1 80 = .ok (.lstore 11, 2) := by decide +kernel
theorem d_PR_compute_82 : decode M_PR_compute.2.1 82 = .ok (.lload 9, 2) := by decide +kernel
theorem d_PR_compute_84 : decode M_PR_compute.2.1 84 = .ok (.ldc2_w 87, 3) := by decide +kernel
theorem d_PR_compute_87 : decode M_PR_compute.2.1 87 = .ok (.lcmp, 1) := by decide +kernel
theorem d_PR_compute_88 : decode M_PR_compute.2.1 88 = .ok (.ifCond .eq 12, 3) := by decide +kernel
theorem d_PR_compute_91 : decode M_PR_compute.2.1 91 = .ok (.lload 11, 2) := by decide +kernel
theorem d_PR_compute_93 : decode M_PR_compute.2.1 93 = .ok (.ldc2_w 87, 3) := by decide +kernel
theorem d_PR_compute_96 : decode M_PR_compute.2.1 96 = .ok (.lcmp, 1) := by decide +kernel
theorem d_PR_compute_97 : decode M_PR_compute.2.1 97 = .ok (.ifCond .ne 8, 3) := by decide +kernel
theorem d_PR_compute_100 : decode M_PR_compute.2.1 100 = .ok (.aload_n 0, 1) := by decide +kernel
theorem d_PR_compute_101 : decode M_PR_compute.2.1 101 = .ok (.invokevirtual 97, 3) := by decide +kernel
theorem d_PR_compute_104 : decode M_PR_compute.2.1 104 = .ok (.ireturn, 1) := by decide +kernel
theorem d_PR_compute_105 : decode M_PR_compute.2.1 105 = .ok (.iload_n 1, 1) := by decide +kernel
theorem d_PR_compute_106 : decode M_PR_compute.2.1 106 = .ok (.iconst 2, 1) := by decide +kernel
theorem d_PR_compute_107 : decode M_PR_compute.2.1 107 = .ok (.if_icmp .ne 33, 3) := by decide +kernel
theorem d_PR_compute_110 : decode M_PR_compute.2.1 110 = .ok (.aload_n 0, 1) := by decide +kernel
theorem d_PR_compute_111 : decode M_PR_compute.2.1 111 = .ok (.aload 8, 2) := by decide +kernel
theorem d_PR_compute_113 : decode M_PR_compute.2.1 113 = .ok (.lload 9, 2) := by decide +kernel
theorem d_PR_compute_115 : decode M_PR_compute.2.1 115 = .ok (.lload 11, 2) := by decide +kernel
theorem d_PR_compute_117 : decode M_PR_compute.2.1 117 = .ok (.lmul, 1) := by decide +kernel
theorem d_PR_compute_118 : decode M_PR_compute.2.1 118 = .ok (.aload 6, 2) := by decide +kernel
theorem d_PR_compute_120 : decode M_PR_compute.2.1 120 = .ok (.getfield 69, 3) := by decide +kernel
theorem d_PR_compute_123 : decode M_PR_compute.2.1 123 = .ok (.aload 7, 2) := by decide +kernel
theorem d_PR_compute_125 : decode M_PR_compute.2.1 125 = .ok (.getfield 69, 3) := by decide +kernel
theorem d_PR_compute_128 : decode M_PR_compute.2.1 128 = .ok (.iadd, 1) := by decide +kernel
theorem d_PR_compute_129 : decode M_PR_compute.2.1 129 = .ok (.lconst 1, 1) := by decide +kernel
theorem d_PR_compute_130 : decode M_PR_compute.2.1 130 = .ok (.iload 5, 2) := by decide +kernel
theorem d_PR_compute_132 : decode M_PR_compute.2.1 132 = .ok (.invokevirtual 111, 3) := by decide +kernel
theorem d_PR_compute_135 : decode M_PR_compute.2.1 135 = .ok (.istore 13, 2) := by decide +kernel
theorem d_PR_compute_137 : decode M_PR_compute.2.1 137 = .ok (.goto 84, 3) := by decide +kernel
theorem d_PR_compute_140 : decode M_PR_compute.2.1 140 = .ok (.iload_n 1, 1) := by decide +kernel
theorem d_PR_compute_141 : decode M_PR_compute.2.1 141 = .ok (.iconst 3, 1) := by decide +kernel
theorem d_PR_compute_142 : decode M_PR_compute.2.1 142 = .ok (.if_icmp .ne 31, 3) := by decide +kernel
theorem d_PR_compute_145 : decode M_PR_compute.2.1 145 = .ok (.aload_n 0, 1) := by decide +kernel
theorem d_PR_compute_146 : decode M_PR_compute.2.1 146 = .ok (.aload 8, 2) := by decide +kernel
theorem d_PR_compute_148 : decode M_PR_compute.2.1 148 = .ok (.lload 9, 2) := by decide +kernel
theorem d_PR_compute_150 : decode M_PR_compute.2.1 150 = .ok (.aload 6, 2) := by decide +kernel
theorem d_PR_compute_152 : decode M_PR_compute.2.1 152 = .ok (.getfield 69, 3) := by decide +kernel
theorem d_PR_compute_155 : decode M_PR_compute.2.1 155 = .ok (.aload 7, 2) := by decide +kernel
theorem d_PR_compute_157 : decode M_PR_compute.2.1 157 = .ok (.getfield 69, 3) := by decide +kernel
theorem d_PR_compute_160 : decode M_PR_compute.2.1 160 = .ok (.isub, 1) := by decide +kernel
theorem d_PR_compute_161 : decode M_PR_compute.2.1 161 = .ok (.lload 11, 2) := by decide +kernel
theorem d_PR_compute_163 : decode M_PR_compute.2.1 163 = .ok (.iload 5, 2) := by decide +kernel
theorem d_PR_compute_165 : decode M_PR_compute.2.1 165 = .ok (.invokevirtual 111, 3) := by decide +kernel
theorem d_PR_compute_168 : decode M_PR_compute.2.1 168 = .ok (.istore 13, 2) := by decide +kernel
theorem d_PR_compute_170 : decode M_PR_compute.2.1 170 = .ok (.goto 51, 3) := by decide +kernel
theorem d_PR_compute_173 : decode M_PR_compute.2.1 173 = .ok (.iload_n 1, 1) := by decide +kernel
theorem d_PR_compute_174 : decode M_PR_compute.2.1 174 = .ok (.iconst 1, 1) := by decide +kernel
theorem d_PR_compute_175 : decode M_PR_compute.2.1 175 = .ok (.if_icmp .ne 9, 3) := by decide +kernel
theorem d_PR_compute_178 : decode M_PR_compute.2.1 178 = .ok (.lload 11, 2) := by decide +kernel
theorem d_PR_compute_180 : decode M_PR_compute.2.1 180 = .ok (.lneg, 1) := by decide +kernel
theorem d_PR_compute_181 : decode M_PR_compute.2.1 181 = .ok (.goto 5, 3) := by decide +kernel
theorem d_PR_compute_184 : decode M_PR_compute.2.1 184 = .ok (.lload 11, 2) := by decide +kernel
theorem d_PR_compute_186 : decode M_PR_compute.2.1 186 = .ok (.aload 7, 2) := by decide +kernel
theorem d_PR_compute_188 : decode M_PR_compute.2.1 188 = .ok (.getfield 69, 3) := by decide +kernel
theorem d_PR_compute_191 : decode M_PR_compute.2.1 191 = .ok (.invokestatic 115, 3) := by decide +kernel
theorem d_PR_compute_194 : decode M_PR_compute.2.1 194 = .ok (.lstore 14, 2) := by decide +kernel
theorem d_PR_compute_196 : decode M_PR_compute.2.1 196 = .ok (.aload_n 0, 1) := by decide +kernel
theorem d_PR_compute_197 : decode M_PR_compute.2.1 197 = .ok (.aload 8, 2) := by decide +kernel
theorem d_PR_compute_199 : decode M_PR_compute.2.1 199 = .ok (.lload 9, 2) := by decide +kernel
theorem d_PR_compute_201 : decode M_PR_compute.2.1 201 = .ok (.aload 6, 2) := by decide +kernel
theorem d_PR_compute_203 : decode M_PR_compute.2.1 203 = .ok (.getfield 69, 3) := by decide +kernel
theorem d_PR_compute_206 : decode M_PR_compute.2.1 206 = .ok (.invokestatic 115, 3) := by decide +kernel
theorem d_PR_compute_209 : decode M_PR_compute.2.1 209 = .ok (.lload 14, 2) := by decide +kernel
theorem d_PR_compute_211 : decode M_PR_compute.2.1 211 = .ok (.ladd, 1) := by decide +kernel
theorem d_PR_compute_212 : decode M_PR_compute.2.1 212 = .ok (.iconst 4, 1) := by decide +kernel
theorem d_PR_compute_213 : decode M_PR_compute.2.1 213 = .ok (.lconst 1, 1) := by decide +kernel
theorem d_PR_compute_214 : decode M_PR_compute.2.1 214 = .ok (.iload 5, 2) := by decide +kernel
theorem d_PR_compute_216 : decode M_PR_compute.2.1 216 = .ok (.invokevirtual 111, 3) := by decide +kernel
theorem d_PR_compute_219 : decode M_PR_compute.2.1 219 = .ok (.istore 13, 2) := by decide +kernel
theorem d_PR_compute_221 : decode M_PR_compute.2.1 221 = .ok (.iload 13, 2) := by decide +kernel
theorem d_PR_compute_223 : decode M_PR_compute.2.1 223 = .ok (.ifCond .eq 7, 3) := by decide +kernel
theorem d_PR_compute_226 : decode M_PR_compute.2.1 226 = .ok (.iconst 0, 1) := by decide +kernel
theorem d_PR_compute_227 : decode M_PR_compute.2.1 227 = .ok (.goto 4, 3) := by decide +kernel
theorem d_PR_compute_230 : decode M_PR_compute.2.1 230 = .ok (.iconst 1, 1) := by decide +kernel
theorem d_PR_compute_231 : decode M_PR_compute.2.1 231 = .ok (.ireturn, 1) := by decide +kernel
theorem d_PR_isOperation_0 : decode M_PR_isOperation.2.1 0 = .ok (.iload_n 0, 1) := by decide +kernel
theorem d_PR_isOperation_1 : decode M_PR_isOperation.2.1 1 = .ok (.ifCond .lt 12, 3) := by decide +kernel
theorem d_PR_isOperation_4 : decode M_PR_isOperation.2.1 4 = .ok (.iload_n 0, 1) := by decide +kernel
theorem d_PR_isOperation_5 : decode M_PR_isOperation.2.1 5 = .ok (.iconst 3, 1) := by decide +kernel
theorem d_PR_isOperation_6 : decode M_PR_isOperation.2.1 6 = .ok (.if_icmp .gt 7, 3) := by decide +kernel
theorem d_PR_isOperation_9 : decode M_PR_isOperation.2.1 9 = .ok (.iconst 1, 1) := by decide +kernel
theorem d_PR_isOperation_10 : decode M_PR_isOperation.2.1 10 = .ok (.goto 4, 3) := by decide +kernel
theorem d_PR_isOperation_13 : decode M_PR_isOperation.2.1 13 = .ok (.iconst 0, 1) := by decide +kernel
theorem d_PR_isOperation_14 : decode M_PR_isOperation.2.1 14 = .ok (.ireturn, 1) := by decide +kernel
theorem d_PR_isMode_0 : decode M_PR_isMode.2.1 0 = .ok (.iload_n 0, 1) := by decide +kernel
theorem d_PR_isMode_1 : decode M_PR_isMode.2.1 1 = .ok (.ifCond .lt 13, 3) := by decide +kernel
theorem d_PR_isMode_4 : decode M_PR_isMode.2.1 4 = .ok (.iload_n 0, 1) := by decide +kernel
theorem d_PR_isMode_5 : decode M_PR_isMode.2.1 5 = .ok (.bipush 7, 2) := by decide +kernel
theorem d_PR_isMode_7 : decode M_PR_isMode.2.1 7 = .ok (.if_icmp .gt 7, 3) := by decide +kernel
theorem d_PR_isMode_10 : decode M_PR_isMode.2.1 10 = .ok (.iconst 1, 1) := by decide +kernel
theorem d_PR_isMode_11 : decode M_PR_isMode.2.1 11 = .ok (.goto 4, 3) := by decide +kernel
theorem d_PR_isMode_14 : decode M_PR_isMode.2.1 14 = .ok (.iconst 0, 1) := by decide +kernel
theorem d_PR_isMode_15 : decode M_PR_isMode.2.1 15 = .ok (.ireturn, 1) := by decide +kernel
theorem d_PR_isOperand_0 : decode M_PR_isOperand.2.1 0 = .ok (.aload_n 0, 1) := by decide +kernel
theorem d_PR_isOperand_1 : decode M_PR_isOperand.2.1 1 = .ok (.ifnull 14, 3) := by decide +kernel
theorem d_PR_isOperand_4 : decode M_PR_isOperand.2.1 4 = .ok (.aload_n 0, 1) := by decide +kernel
theorem d_PR_isOperand_5 : decode M_PR_isOperand.2.1 5 = .ok (.invokevirtual 76, 3) := by decide +kernel
theorem d_PR_isOperand_8 : decode M_PR_isOperand.2.1 8 = .ok (.ifCond .ne 7, 3) := by decide +kernel
theorem d_PR_isOperand_11 : decode M_PR_isOperand.2.1 11 = .ok (.iconst 1, 1) := by decide +kernel
theorem d_PR_isOperand_12 : decode M_PR_isOperand.2.1 12 = .ok (.goto 4, 3) := by decide +kernel
theorem d_PR_isOperand_15 : decode M_PR_isOperand.2.1 15 = .ok (.iconst 0, 1) := by decide +kernel
theorem d_PR_isOperand_16 : decode M_PR_isOperand.2.1 16 = .ok (.ireturn, 1) := by decide +kernel
theorem d_PR_storeResult_0 : decode M_PR_storeResult.2.1 0 = .ok (.lload_n 2, 1) := by decide +kernel
theorem d_PR_storeResult_1 : decode M_PR_storeResult.2.1 1 = .ok (.aload_n 1, 1) := by decide +kernel
theorem d_PR_storeResult_2 : decode M_PR_storeResult.2.1 2 = .ok (.getfield 69, 3) := by decide +kernel
theorem d_PR_storeResult_5 : decode M_PR_storeResult.2.1 5 = .ok (.iload 4, 2) := by decide +kernel
theorem d_PR_storeResult_7 : decode M_PR_storeResult.2.1 7 = .ok (.isub, 1) := by decide +kernel
theorem d_PR_storeResult_8 : decode M_PR_storeResult.2.1 8 = .ok (.lload 5, 2) := by decide +kernel
theorem d_PR_storeResult_10 : decode M_PR_storeResult.2.1 10 = .ok (.iload 7, 2) := by decide +kernel
theorem d_PR_storeResult_12 : decode M_PR_storeResult.2.1 12 = .ok (.invokestatic 144, 3) := by decide +kernel
theorem d_PR_storeResult_15 : decode M_PR_storeResult.2.1 15 = .ok (.lstore 8, 2) := by decide +kernel
theorem d_PR_storeResult_17 : decode M_PR_storeResult.2.1 17 = .ok (.lload 8, 2) := by decide +kernel
theorem d_PR_storeResult_19 : decode M_PR_storeResult.2.1 19 = .ok (.invokestatic 152, 3) := by decide +kernel
theorem d_PR_storeResult_22 : decode M_PR_storeResult.2.1 22 = .ok (.aload_n 1, 1) := by decide +kernel
theorem d_PR_storeResult_23 : decode M_PR_storeResult.2.1 23 = .ok (.getfield 66, 3) := by decide +kernel
theorem d_PR_storeResult_26 : decode M_PR_storeResult.2.1 26 = .ok (.invokestatic 148, 3) := by decide +kernel
theorem d_PR_storeResult_29 : decode M_PR_storeResult.2.1 29 = .ok (.lcmp, 1) := by decide +kernel
theorem d_PR_storeResult_30 : decode M_PR_storeResult.2.1 30 = .ok (.ifCond .lt 15, 3) := by decide +kernel
theorem d_PR_storeResult_33 : decode M_PR_storeResult.2.1 33 = .ok (.aload_n 0, 1) := by decide +kernel
theorem d_PR_storeResult_34 : decode M_PR_storeResult.2.1 34 = .ok (.dup, 1) := by decide +kernel
theorem d_PR_storeResult_35 : decode M_PR_storeResult.2.1 35 = .ok (.getfield 138, 3) := by decide +kernel
theorem d_PR_storeResult_38 : decode M_PR_storeResult.2.1 38 = .ok (.iconst 1, 1) := by decide +kernel
theorem d_PR_storeResult_39 : decode M_PR_storeResult.2.1 39 = .ok (.iadd, 1) := by decide +kernel
theorem d_PR_storeResult_40 : decode M_PR_storeResult.2.1 40 = .ok (.putfield 138, 3) := by decide +kernel
theorem d_PR_storeResult_43 : decode M_PR_storeResult.2.1 43 = .ok (.iconst 0, 1) := by decide +kernel
theorem d_PR_storeResult_44 : decode M_PR_storeResult.2.1 44 = .ok (.ireturn, 1) := by decide +kernel
theorem d_PR_storeResult_45 : decode M_PR_storeResult.2.1 45 = .ok (.aload_n 0, 1) := by decide +kernel
theorem d_PR_storeResult_46 : decode M_PR_storeResult.2.1 46 = .ok (.getfield 29, 3) := by decide +kernel
theorem d_PR_storeResult_49 : decode M_PR_storeResult.2.1 49 = .ok (.aload_n 1, 1) := by decide +kernel
theorem d_PR_storeResult_50 : decode M_PR_storeResult.2.1 50 = .ok (.lload 8, 2) := by decide +kernel
theorem d_PR_storeResult_52 : decode M_PR_storeResult.2.1 52 = .ok (.invokevirtual 156, 3) := by decide +kernel
theorem d_PR_storeResult_55 : decode M_PR_storeResult.2.1 55 = .ok (.iconst 1, 1) := by decide +kernel
theorem d_PR_storeResult_56 : decode M_PR_storeResult.2.1 56 = .ok (.ireturn, 1) := by decide +kernel
theorem d_DC_result_0 : decode M_DC_result.2.1 0 = .ok (.lload_n 3, 1) := by decide +kernel
theorem d_DC_result_1 : decode M_DC_result.2.1 1 = .ok (.lconst 0, 1) := by decide +kernel
theorem d_DC_result_2 : decode M_DC_result.2.1 2 = .ok (.lcmp, 1) := by decide +kernel
theorem d_DC_result_3 : decode M_DC_result.2.1 3 = .ok (.ifCond .ne 7, 3) := by decide +kernel
theorem d_DC_result_6 : decode M_DC_result.2.1 6 = .ok (.ldc2_w 19, 3) := by decide +kernel
theorem d_DC_result_9 : decode M_DC_result.2.1 9 = .ok (.lreturn, 1) := by decide +kernel
theorem d_DC_result_10 : decode M_DC_result.2.1 10 = .ok (.lload_n 0, 1) := by decide +kernel
theorem d_DC_result_11 : decode M_DC_result.2.1 11 = .ok (.lstore 6, 2) := by decide +kernel
theorem d_DC_result_13 : decode M_DC_result.2.1 13 = .ok (.lload_n 3, 1) := by decide +kernel
theorem d_DC_result_14 : decode M_DC_result.2.1 14 = .ok (.lstore 8, 2) := by decide +kernel
theorem d_DC_result_16 : decode M_DC_result.2.1 16 = .ok (.iload_n 2, 1) := by decide +kernel
theorem d_DC_result_17 : decode M_DC_result.2.1 17 = .ok (.ifCond .ge 16, 3) := by decide +kernel
theorem d_DC_result_20 : decode M_DC_result.2.1 20 = .ok (.lload 8, 2) := by decide +kernel
theorem d_DC_result_22 : decode M_DC_result.2.1 22 = .ok (.iload_n 2, 1) := by decide +kernel
theorem d_DC_result_23 : decode M_DC_result.2.1 23 = .ok (.ineg, 1) := by decide +kernel
theorem d_DC_result_24 : decode M_DC_result.2.1 24 = .ok (.invokestatic 15, 3) := by decide +kernel
theorem d_DC_result_27 : decode M_DC_result.2.1 27 = .ok (.lmul, 1) := by decide +kernel
theorem d_DC_result_28 : decode M_DC_result.2.1 28 = .ok (.lstore 8, 2) := by decide +kernel
theorem d_DC_result_30 : decode M_DC_result.2.1 30 = .ok (.goto 32, 3) := by decide +kernel
theorem d_DC_result_33 : decode M_DC_result.2.1 33 = .ok (.lload_n 0, 1) := by decide +kernel
theorem d_DC_result_34 : decode M_DC_result.2.1 34 = .ok (.invokestatic 21, 3) := by decide +kernel
theorem d_DC_result_37 : decode M_DC_result.2.1 37 = .ok (.bipush 9, 2) := by decide +kernel
theorem d_DC_result_39 : decode M_DC_result.2.1 39 = .ok (.invokestatic 15, 3) := by decide +kernel
theorem d_DC_result_42 : decode M_DC_result.2.1 42 = .ok (.lcmp, 1) := by decide +kernel
theorem d_DC_result_43 : decode M_DC_result.2.1 43 = .ok (.ifCond .ge 15, 3) := by decide +kernel
theorem d_DC_result_46 : decode M_DC_result.2.1 46 = .ok (.lload 6, 2) := by decide +kernel
theorem d_DC_result_48 : decode M_DC_result.2.1 48 = .ok (.iload_n 2, 1) := by decide +kernel
theorem d_DC_result_49 : decode M_DC_result.2.1 49 = .ok (.invokestatic 15, 3) := by decide +kernel
theorem d_DC_result_52 : decode M_DC_result.2.1 52 = .ok (.lmul, 1) := by decide +kernel
theorem d_DC_result_53 : decode M_DC_result.2.1 53 = .ok (.lstore 6, 2) := by decide +kernel
theorem d_DC_result_55 : decode M_DC_result.2.1 55 = .ok (.goto 7, 3) := by decide +kernel
theorem d_DC_result_58 : decode M_DC_result.2.1 58 = .ok (.ldc2_w 19, 3) := by decide +kernel
theorem d_DC_result_61 : decode M_DC_result.2.1 61 = .ok (.lreturn, 1) := by decide +kernel
theorem d_DC_result_62 : decode M_DC_result.2.1 62 = .ok (.lload 8, 2) := by decide +kernel
theorem d_DC_result_64 : decode M_DC_result.2.1 64 = .ok (.lconst 0, 1) := by decide +kernel
theorem d_DC_result_65 : decode M_DC_result.2.1 65 = .ok (.lcmp, 1) := by decide +kernel
theorem d_DC_result_66 : decode M_DC_result.2.1 66 = .ok (.ifCond .ge 17, 3) := by decide +kernel
theorem d_DC_result_69 : decode M_DC_result.2.1 69 = .ok (.lload 6, 2) := by decide +kernel
theorem d_DC_result_71 : decode M_DC_result.2.1 71 = .ok (.lneg, 1) := by decide +kernel
theorem d_DC_result_72 : decode M_DC_result.2.1 72 = .ok (.lload 8, 2) := by decide +kernel
theorem d_DC_result_74 : decode M_DC_result.2.1 74 = .ok (.lneg, 1) := by decide +kernel
theorem d_DC_result_75 : decode M_DC_result.2.1 75 = .ok (.iload 5, 2) := by decide +kernel
theorem d_DC_result_77 : decode M_DC_result.2.1 77 = .ok (.invokestatic 27, 3) := by decide +kernel
theorem d_DC_result_80 : decode M_DC_result.2.1 80 = .ok (.goto 12, 3) := by decide +kernel
theorem d_DC_result_83 : decode M_DC_result.2.1 83 = .ok (.lload 6, 2) := by decide +kernel
theorem d_DC_result_85 : decode M_DC_result.2.1 85 = .ok (.lload 8, 2) := by decide +kernel
theorem d_DC_result_87 : decode M_DC_result.2.1 87 = .ok (.iload 5, 2) := by decide +kernel
theorem d_DC_result_89 : decode M_DC_result.2.1 89 = .ok (.invokestatic 27, 3) := by decide +kernel
theorem d_DC_result_92 : decode M_DC_result.2.1 92 = .ok (.lreturn, 1) := by decide +kernel
theorem d_DC_rounded_0 : decode M_DC_rounded.2.1 0 = .ok (.lload_n 2, 1) := by decide +kernel
theorem d_DC_rounded_1 : decode M_DC_rounded.2.1 1 = .ok (.lconst 0, 1) := by decide +kernel
theorem d_DC_rounded_2 : decode M_DC_rounded.2.1 2 = .ok (.lcmp, 1) := by decide +kernel
theorem d_DC_rounded_3 : decode M_DC_rounded.2.1 3 = .ok (.ifCond .gt 7, 3) := by decide +kernel
theorem d_DC_rounded_6 : decode M_DC_rounded.2.1 6 = .ok (.ldc2_w 19, 3) := by decide +kernel
theorem d_DC_rounded_9 : decode M_DC_rounded.2.1 9 = .ok (.lreturn, 1) := by decide +kernel
theorem d_DC_rounded_10 : decode M_DC_rounded.2.1 10 = .ok (.lload_n 0, 1) := by decide +kernel
theorem d_DC_rounded_11 : decode M_DC_rounded.2.1 11 = .ok (.lload_n 2, 1) := by decide +kernel
theorem d_DC_rounded_12 : decode M_DC_rounded.2.1 12 = .ok (.ldiv, 1) := by decide +kernel
theorem d_DC_rounded_13 : decode M_DC_rounded.2.1 13 = .ok (.lstore 5, 2) := by decide +kernel
theorem d_DC_rounded_15 : decode M_DC_rounded.2.1 15 = .ok (.lload_n 0, 1) := by decide +kernel
theorem d_DC_rounded_16 : decode M_DC_rounded.2.1 16 = .ok (.lload_n 2, 1) := by decide +kernel
theorem d_DC_rounded_17 : decode M_DC_rounded.2.1 17 = .ok (.lrem, 1) := by decide +kernel
theorem d_DC_rounded_18 : decode M_DC_rounded.2.1 18 = .ok (.invokestatic 21, 3) := by decide +kernel
theorem d_DC_rounded_21 : decode M_DC_rounded.2.1 21 = .ok (.lstore 7, 2) := by decide +kernel
theorem d_DC_rounded_23 : decode M_DC_rounded.2.1 23 = .ok (.lload 7, 2) := by decide +kernel
theorem d_DC_rounded_25 : decode M_DC_rounded.2.1 25 = .ok (.lconst 0, 1) := by decide +kernel
theorem d_DC_rounded_26 : decode M_DC_rounded.2.1 26 = .ok (.lcmp, 1) := by decide +kernel
theorem d_DC_rounded_27 : decode M_DC_rounded.2.1 27 = .ok (.ifCond .ne 6, 3) := by decide +kernel
theorem d_DC_rounded_30 : decode M_DC_rounded.2.1 30 = .ok (.lload 5, 2) := by decide +kernel
theorem d_DC_rounded_32 : decode M_DC_rounded.2.1 32 = .ok (.lreturn, 1) := by decide +kernel
theorem d_DC_rounded_33 : decode M_DC_rounded.2.1 33 = .ok (.iload 4, 2) := by decide +kernel
theorem d_DC_rounded_35 : decode M_DC_rounded.2.1 35 = .ok (.bipush 7, 2) := by decide +kernel
theorem d_DC_rounded_37 : decode M_DC_rounded.2.1 37 = .ok (.if_icmp .ne 7, 3) := by decide +kernel
theorem d_DC_rounded_40 : decode M_DC_rounded.2.1 40 = .ok (.ldc2_w 19, 3) := by decide +kernel
theorem d_DC_rounded_43 : decode M_DC_rounded.2.1 43 = .ok (.lreturn, 1) := by decide +kernel
theorem d_DC_rounded_44 : decode M_DC_rounded.2.1 44 = .ok (.ldc2_w 31, 3) := by decide +kernel
theorem d_DC_rounded_47 : decode M_DC_rounded.2.1 47 = .ok (.lload 7, 2) := by decide +kernel
theorem d_DC_rounded_49 : decode M_DC_rounded.2.1 49 = .ok (.lmul, 1) := by decide +kernel
theorem d_DC_rounded_50 : decode M_DC_rounded.2.1 50 = .ok (.lload_n 2, 1) := by decide +kernel
theorem d_DC_rounded_51 : decode M_DC_rounded.2.1 51 = .ok (.invokestatic 33, 3) := by decide +kernel
theorem d_DC_rounded_54 : decode M_DC_rounded.2.1 54 = .ok (.istore 9, 2) := by decide +kernel
theorem d_DC_rounded_56 : decode M_DC_rounded.2.1 56 = .ok (.iload 4, 2) := by decide +kernel
theorem d_DC_rounded_58 : decode M_DC_rounded.2.1 58 = .ok (.lload_n 0, 1) := by decide +kernel
theorem d_DC_rounded_59 : decode M_DC_rounded.2.1 59 = .ok (.lconst 0, 1) := by decide +kernel
theorem d_DC_rounded_60 : decode M_DC_rounded.2.1 60 = .ok (.lcmp, 1) := by decide +kernel
theorem d_DC_rounded_61 : decode M_DC_rounded.2.1 61 = .ok (.ifCond .ge 7, 3) := by decide +kernel
theorem d_DC_rounded_64 : decode M_DC_rounded.2.1 64 = .ok (.iconst 1, 1) := by decide +kernel
theorem d_DC_rounded_65 : decode M_DC_rounded.2.1 65 = .ok (.goto 4, 3) := by decide +kernel
theorem d_DC_rounded_68 : decode M_DC_rounded.2.1 68 = .ok (.iconst 0, 1) := by decide +kernel
theorem d_DC_rounded_69 : decode M_DC_rounded.2.1 69 = .ok (.iload 9, 2) := by decide +kernel
theorem d_DC_rounded_71 : decode M_DC_rounded.2.1 71 = .ok (.lload 5, 2) := by decide +kernel
theorem d_DC_rounded_73 : decode M_DC_rounded.2.1 73 = .ok (.ldc2_w 31, 3) := by decide +kernel
theorem d_DC_rounded_76 : decode M_DC_rounded.2.1 76 = .ok (.lrem, 1) := by decide +kernel
theorem d_DC_rounded_77 : decode M_DC_rounded.2.1 77 = .ok (.lconst 0, 1) := by decide +kernel
theorem d_DC_rounded_78 : decode M_DC_rounded.2.1 78 = .ok (.lcmp, 1) := by decide +kernel
theorem d_DC_rounded_79 : decode M_DC_rounded.2.1 79 = .ok (.ifCond .eq 7, 3) := by decide +kernel
theorem d_DC_rounded_82 : decode M_DC_rounded.2.1 82 = .ok (.iconst 1, 1) := by decide +kernel
theorem d_DC_rounded_83 : decode M_DC_rounded.2.1 83 = .ok (.goto 4, 3) := by decide +kernel
theorem d_DC_rounded_86 : decode M_DC_rounded.2.1 86 = .ok (.iconst 0, 1) := by decide +kernel
theorem d_DC_rounded_87 : decode M_DC_rounded.2.1 87 = .ok (.invokestatic 39, 3) := by decide +kernel
theorem d_DC_rounded_90 : decode M_DC_rounded.2.1 90 = .ok (.ifCond .ne 6, 3) := by decide +kernel
theorem d_DC_rounded_93 : decode M_DC_rounded.2.1 93 = .ok (.lload 5, 2) := by decide +kernel
theorem d_DC_rounded_95 : decode M_DC_rounded.2.1 95 = .ok (.lreturn, 1) := by decide +kernel
theorem d_DC_rounded_96 : decode M_DC_rounded.2.1 96 = .ok (.lload_n 0, 1) := by decide +kernel
theorem d_DC_rounded_97 : decode M_DC_rounded.2.1 97 = .ok (.lconst 0, 1) := by decide +kernel
theorem d_DC_rounded_98 : decode M_DC_rounded.2.1 98 = .ok (.lcmp, 1) := by decide +kernel
theorem d_DC_rounded_99 : decode M_DC_rounded.2.1 99 = .ok (.ifCond .ge 10, 3) := by decide +kernel
theorem d_DC_rounded_102 : decode M_DC_rounded.2.1 102 = .ok (.lload 5, 2) := by decide +kernel
theorem d_DC_rounded_104 : decode M_DC_rounded.2.1 104 = .ok (.lconst 1, 1) := by decide +kernel
theorem d_DC_rounded_105 : decode M_DC_rounded.2.1 105 = .ok (.lsub, 1) := by decide +kernel
theorem d_DC_rounded_106 : decode M_DC_rounded.2.1 106 = .ok (.goto 7, 3) := by decide +kernel
theorem d_DC_rounded_109 : decode M_DC_rounded.2.1 109 = .ok (.lload 5, 2) := by decide +kernel
theorem d_DC_rounded_111 : decode M_DC_rounded.2.1 111 = .ok (.lconst 1, 1) := by decide +kernel
theorem d_DC_rounded_112 : decode M_DC_rounded.2.1 112 = .ok (.ladd, 1) := by decide +kernel
theorem d_DC_rounded_113 : decode M_DC_rounded.2.1 113 = .ok (.lreturn, 1) := by decide +kernel
theorem d_LO_compare_0 : decode M_LO_compare.2.1 0 = .ok (.lload_n 0, 1) := by decide +kernel
theorem d_LO_compare_1 : decode M_LO_compare.2.1 1 = .ok (.lload_n 2, 1) := by decide +kernel
theorem d_LO_compare_2 : decode M_LO_compare.2.1 2 = .ok (.lcmp, 1) := by decide +kernel
theorem d_LO_compare_3 : decode M_LO_compare.2.1 3 = .ok (.ifCond .ge 7, 3) := by decide +kernel
theorem d_LO_compare_6 : decode M_LO_compare.2.1 6 = .ok (.iconst (-1), 1) := by decide +kernel
theorem d_LO_compare_7 : decode M_LO_compare.2.1 7 = .ok (.goto 14, 3) := by decide +kernel
theorem d_LO_compare_10 : decode M_LO_compare.2.1 10 = .ok (.lload_n 0, 1) := by decide +kernel
theorem d_LO_compare_11 : decode M_LO_compare.2.1 11 = .ok (.lload_n 2, 1) := by decide +kernel
theorem d_LO_compare_12 : decode M_LO_compare.2.1 12 = .ok (.lcmp, 1) := by decide +kernel
theorem d_LO_compare_13 : decode M_LO_compare.2.1 13 = .ok (.ifCond .ne 7, 3) := by decide +kernel
theorem d_LO_compare_16 : decode M_LO_compare.2.1 16 = .ok (.iconst 0, 1) := by decide +kernel
theorem d_LO_compare_17 : decode M_LO_compare.2.1 17 = .ok (.goto 4, 3) := by decide +kernel
theorem d_LO_compare_20 : decode M_LO_compare.2.1 20 = .ok (.iconst 1, 1) := by decide +kernel
theorem d_LO_compare_21 : decode M_LO_compare.2.1 21 = .ok (.ireturn, 1) := by decide +kernel
theorem d_DC_goesAway_0 : decode M_DC_goesAway.2.1 0 = .ok (.iload_n 0, 1) := by decide +kernel
theorem d_DC_goesAway_1 : decode M_DC_goesAway.2.1 1 = .ok (.tableswitch 91 1 6 #[39, 49, 67, 77, 79, 89], 39) := by decide +kernel
theorem d_DC_goesAway_40 : decode M_DC_goesAway.2.1 40 = .ok (.iload_n 2, 1) := by decide +kernel
theorem d_DC_goesAway_41 : decode M_DC_goesAway.2.1 41 = .ok (.ifCond .lt 7, 3) := by decide +kernel
theorem d_DC_goesAway_44 : decode M_DC_goesAway.2.1 44 = .ok (.iconst 1, 1) := by decide +kernel
theorem d_DC_goesAway_45 : decode M_DC_goesAway.2.1 45 = .ok (.goto 4, 3) := by decide +kernel
theorem d_DC_goesAway_48 : decode M_DC_goesAway.2.1 48 = .ok (.iconst 0, 1) := by decide +kernel
theorem d_DC_goesAway_49 : decode M_DC_goesAway.2.1 49 = .ok (.ireturn, 1) := by decide +kernel
theorem d_DC_goesAway_50 : decode M_DC_goesAway.2.1 50 = .ok (.iload_n 2, 1) := by decide +kernel
theorem d_DC_goesAway_51 : decode M_DC_goesAway.2.1 51 = .ok (.ifCond .gt 11, 3) := by decide +kernel
theorem d_DC_goesAway_54 : decode M_DC_goesAway.2.1 54 = .ok (.iload_n 2, 1) := by decide +kernel
theorem d_DC_goesAway_55 : decode M_DC_goesAway.2.1 55 = .ok (.ifCond .ne 11, 3) := by decide +kernel
theorem d_DC_goesAway_58 : decode M_DC_goesAway.2.1 58 = .ok (.iload_n 3, 1) := by decide +kernel
theorem d_DC_goesAway_59 : decode M_DC_goesAway.2.1 59 = .ok (.ifCond .eq 7, 3) := by decide +kernel
theorem d_DC_goesAway_62 : decode M_DC_goesAway.2.1 62 = .ok (.iconst 1, 1) := by decide +kernel
theorem d_DC_goesAway_63 : decode M_DC_goesAway.2.1 63 = .ok (.goto 4, 3) := by decide +kernel
theorem d_DC_goesAway_66 : decode M_DC_goesAway.2.1 66 = .ok (.iconst 0, 1) := by decide +kernel
theorem d_DC_goesAway_67 : decode M_DC_goesAway.2.1 67 = .ok (.ireturn, 1) := by decide +kernel
theorem d_DC_goesAway_68 : decode M_DC_goesAway.2.1 68 = .ok (.iload_n 2, 1) := by decide +kernel
theorem d_DC_goesAway_69 : decode M_DC_goesAway.2.1 69 = .ok (.ifCond .le 7, 3) := by decide +kernel
theorem d_DC_goesAway_72 : decode M_DC_goesAway.2.1 72 = .ok (.iconst 1, 1) := by decide +kernel
theorem d_DC_goesAway_73 : decode M_DC_goesAway.2.1 73 = .ok (.goto 4, 3) := by decide +kernel
theorem d_DC_goesAway_76 : decode M_DC_goesAway.2.1 76 = .ok (.iconst 0, 1) := by decide +kernel
theorem d_DC_goesAway_77 : decode M_DC_goesAway.2.1 77 = .ok (.ireturn, 1) := by decide +kernel
theorem d_DC_goesAway_78 : decode M_DC_goesAway.2.1 78 = .ok (.iconst 1, 1) := by decide +kernel
theorem d_DC_goesAway_79 : decode M_DC_goesAway.2.1 79 = .ok (.ireturn, 1) := by decide +kernel
theorem d_DC_goesAway_80 : decode M_DC_goesAway.2.1 80 = .ok (.iload_n 1, 1) := by decide +kernel
theorem d_DC_goesAway_81 : decode M_DC_goesAway.2.1 81 = .ok (.ifCond .ne 7, 3) := by decide +kernel
theorem d_DC_goesAway_84 : decode M_DC_goesAway.2.1 84 = .ok (.iconst 1, 1) := by decide +kernel
theorem d_DC_goesAway_85 : decode M_DC_goesAway.2.1 85 = .ok (.goto 4, 3) := by decide +kernel
theorem d_DC_goesAway_88 : decode M_DC_goesAway.2.1 88 = .ok (.iconst 0, 1) := by decide +kernel
theorem d_DC_goesAway_89 : decode M_DC_goesAway.2.1 89 = .ok (.ireturn, 1) := by decide +kernel
theorem d_DC_goesAway_90 : decode M_DC_goesAway.2.1 90 = .ok (.iload_n 1, 1) := by decide +kernel
theorem d_DC_goesAway_91 : decode M_DC_goesAway.2.1 91 = .ok (.ireturn, 1) := by decide +kernel
theorem d_DC_goesAway_92 : decode M_DC_goesAway.2.1 92 = .ok (.iconst 0, 1) := by decide +kernel
theorem d_DC_goesAway_93 : decode M_DC_goesAway.2.1 93 = .ok (.ireturn, 1) := by decide +kernel
theorem d_DC_atFullScale_0 : decode M_DC_atFullScale.2.1 0 = .ok (.lload_n 0, 1) := by decide +kernel
theorem d_DC_atFullScale_1 : decode M_DC_atFullScale.2.1 1 = .ok (.iconst 4, 1) := by decide +kernel
theorem d_DC_atFullScale_2 : decode M_DC_atFullScale.2.1 2 = .ok (.iload_n 2, 1) := by decide +kernel
theorem d_DC_atFullScale_3 : decode M_DC_atFullScale.2.1 3 = .ok (.isub, 1) := by decide +kernel
theorem d_DC_atFullScale_4 : decode M_DC_atFullScale.2.1 4 = .ok (.invokestatic 15, 3) := by decide +kernel
theorem d_DC_atFullScale_7 : decode M_DC_atFullScale.2.1 7 = .ok (.lmul, 1) := by decide +kernel
theorem d_DC_atFullScale_8 : decode M_DC_atFullScale.2.1 8 = .ok (.lreturn, 1) := by decide +kernel
theorem d_PR_divide_0 : decode M_PR_divide.2.1 0 = .ok (.aload_n 0, 1) := by decide +kernel
theorem d_PR_divide_1 : decode M_PR_divide.2.1 1 = .ok (.iload_n 1, 1) := by decide +kernel
theorem d_PR_divide_2 : decode M_PR_divide.2.1 2 = .ok (.invokevirtual 59, 3) := by decide +kernel
theorem d_PR_divide_5 : decode M_PR_divide.2.1 5 = .ok (.astore 6, 2) := by decide +kernel
theorem d_PR_divide_7 : decode M_PR_divide.2.1 7 = .ok (.aload_n 0, 1) := by decide +kernel
theorem d_PR_divide_8 : decode M_PR_divide.2.1 8 = .ok (.iload_n 2, 1) := by decide +kernel
theorem d_PR_divide_9 : decode M_PR_divide.2.1 9 = .ok (.invokevirtual 59, 3) := by decide +kernel
theorem d_PR_divide_12 : decode M_PR_divide.2.1 12 = .ok (.astore 7, 2) := by decide +kernel
theorem d_PR_divide_14 : decode M_PR_divide.2.1 14 = .ok (.aload_n 0, 1) := by decide +kernel
theorem d_PR_divide_15 : decode M_PR_divide.2.1 15 = .ok (.iload_n 3, 1) := by decide +kernel
theorem d_PR_divide_16 : decode M_PR_divide.2.1 16 = .ok (.invokevirtual 59, 3) := by decide +kernel
theorem d_PR_divide_19 : decode M_PR_divide.2.1 19 = .ok (.astore 8, 2) := by decide +kernel
theorem d_PR_divide_21 : decode M_PR_divide.2.1 21 = .ok (.aload_n 0, 1) := by decide +kernel
theorem d_PR_divide_22 : decode M_PR_divide.2.1 22 = .ok (.iload 4, 2) := by decide +kernel
theorem d_PR_divide_24 : decode M_PR_divide.2.1 24 = .ok (.invokevirtual 59, 3) := by decide +kernel
theorem d_PR_divide_27 : decode M_PR_divide.2.1 27 = .ok (.astore 9, 2) := by decide +kernel
theorem d_PR_divide_29 : decode M_PR_divide.2.1 29 = .ok (.iload 5, 2) := by decide +kernel
theorem d_PR_divide_31 : decode M_PR_divide.2.1 31 = .ok (.invokestatic 104, 3) := by decide +kernel
theorem d_PR_divide_34 : decode M_PR_divide.2.1 34 = .ok (.ifCond .eq 29, 3) := by decide +kernel
theorem d_PR_divide_37 : decode M_PR_divide.2.1 37 = .ok (.aload 6, 2) := by decide +kernel
theorem d_PR_divide_39 : decode M_PR_divide.2.1 39 = .ok (.invokestatic 107, 3) := by decide +kernel
theorem d_PR_divide_42 : decode M_PR_divide.2.1 42 = .ok (.ifCond .eq 21, 3) := by decide +kernel
theorem d_PR_divide_45 : decode M_PR_divide.2.1 45 = .ok (.aload 7, 2) := by decide +kernel
theorem d_PR_divide_47 : decode M_PR_divide.2.1 47 = .ok (.invokestatic 107, 3) := by decide +kernel
theorem d_PR_divide_50 : decode M_PR_divide.2.1 50 = .ok (.ifCond .eq 13, 3) := by decide +kernel
theorem d_PR_divide_53 : decode M_PR_divide.2.1 53 = .ok (.aload 8, 2) := by decide +kernel
theorem d_PR_divide_55 : decode M_PR_divide.2.1 55 = .ok (.ifnull 8, 3) := by decide +kernel
theorem d_PR_divide_58 : decode M_PR_divide.2.1 58 = .ok (.aload 9, 2) := by decide +kernel
theorem d_PR_divide_60 : decode M_PR_divide.2.1 60 = .ok (.ifnonnull 5, 3) := by decide +kernel
theorem d_PR_divide_63 : decode M_PR_divide.2.1 63 = .ok (.iconst (-1), 1) := by decide +kernel
theorem d_PR_divide_64 : decode M_PR_divide.2.1 64 = .ok (.ireturn, 1) := by decide +kernel
theorem d_PR_divide_65 : decode M_PR_divide.2.1 65 = .ok (.aload_n 0, 1) := by decide +kernel
theorem d_PR_divide_66 : decode M_PR_divide.2.1 66 = .ok (.getfield 29, 3) := by decide +kernel
theorem d_PR_divide_69 : decode M_PR_divide.2.1 69 = .ok (.aload 6, 2) := by decide +kernel
theorem d_PR_divide_71 : decode M_PR_divide.2.1 71 = .ok (.invokevirtual 89, 3) := by decide +kernel
theorem d_PR_divide_74 : decode M_PR_divide.2.1 74 = .ok (.lstore 10, 2) := by decide +kernel
theorem d_PR_divide_76 : decode M_PR_divide.2.1 76 = .ok (.aload_n 0, 1) := by decide +kernel
theorem d_PR_divide_77 : decode M_PR_divide.2.1 77 = .ok (.getfield 29, 3) := by decide +kernel
theorem d_PR_divide_80 : decode M_PR_divide.2.1 80 = .ok (.aload 7, 2) := by decide +kernel
theorem d_PR_divide_82 : decode M_PR_divide.2.1 82 = .ok (.invokevirtual 89, 3) := by decide +kernel
theorem d_PR_divide_85 : decode M_PR_divide.2.1 85 = .ok (.lstore 12, 2) := by decide +kernel
theorem d_PR_divide_87 : decode M_PR_divide.2.1 87 = .ok (.lload 10, 2) := by decide +kernel
theorem d_PR_divide_89 : decode M_PR_divide.2.1 89 = .ok (.ldc2_w 87, 3) := by decide +kernel
theorem d_PR_divide_92 : decode M_PR_divide.2.1 92 = .ok (.lcmp, 1) := by decide +kernel
theorem d_PR_divide_93 : decode M_PR_divide.2.1 93 = .ok (.ifCond .eq 12, 3) := by decide +kernel
theorem d_PR_divide_96 : decode M_PR_divide.2.1 96 = .ok (.lload 12, 2) := by decide +kernel
theorem d_PR_divide_98 : decode M_PR_divide.2.1 98 = .ok (.ldc2_w 87, 3) := by decide +kernel
theorem d_PR_divide_101 : decode M_PR_divide.2.1 101 = .ok (.lcmp, 1) := by decide +kernel
theorem d_PR_divide_102 : decode M_PR_divide.2.1 102 = .ok (.ifCond .ne 8, 3) := by decide +kernel
theorem d_PR_divide_105 : decode M_PR_divide.2.1 105 = .ok (.aload_n 0, 1) := by decide +kernel
theorem d_PR_divide_106 : decode M_PR_divide.2.1 106 = .ok (.invokevirtual 97, 3) := by decide +kernel
theorem d_PR_divide_109 : decode M_PR_divide.2.1 109 = .ok (.ireturn, 1) := by decide +kernel
theorem d_PR_divide_110 : decode M_PR_divide.2.1 110 = .ok (.aload_n 0, 1) := by decide +kernel
theorem d_PR_divide_111 : decode M_PR_divide.2.1 111 = .ok (.aload 8, 2) := by decide +kernel
theorem d_PR_divide_113 : decode M_PR_divide.2.1 113 = .ok (.lload 10, 2) := by decide +kernel
theorem d_PR_divide_115 : decode M_PR_divide.2.1 115 = .ok (.aload 6, 2) := by decide +kernel
theorem d_PR_divide_117 : decode M_PR_divide.2.1 117 = .ok (.getfield 69, 3) := by decide +kernel
theorem d_PR_divide_120 : decode M_PR_divide.2.1 120 = .ok (.aload 7, 2) := by decide +kernel
theorem d_PR_divide_122 : decode M_PR_divide.2.1 122 = .ok (.getfield 69, 3) := by decide +kernel
theorem d_PR_divide_125 : decode M_PR_divide.2.1 125 = .ok (.isub, 1) := by decide +kernel
theorem d_PR_divide_126 : decode M_PR_divide.2.1 126 = .ok (.lload 12, 2) := by decide +kernel
theorem d_PR_divide_128 : decode M_PR_divide.2.1 128 = .ok (.iload 5, 2) := by decide +kernel
theorem d_PR_divide_130 : decode M_PR_divide.2.1 130 = .ok (.invokevirtual 111, 3) := by decide +kernel
theorem d_PR_divide_133 : decode M_PR_divide.2.1 133 = .ok (.ifCond .ne 5, 3) := by decide +kernel
theorem d_PR_divide_136 : decode M_PR_divide.2.1 136 = .ok (.iconst 1, 1) := by decide +kernel
theorem d_PR_divide_137 : decode M_PR_divide.2.1 137 = .ok (.ireturn, 1) := by decide +kernel
theorem d_PR_divide_138 : decode M_PR_divide.2.1 138 = .ok (.aload 7, 2) := by decide +kernel
theorem d_PR_divide_140 : decode M_PR_divide.2.1 140 = .ok (.getfield 69, 3) := by decide +kernel
theorem d_PR_divide_143 : decode M_PR_divide.2.1 143 = .ok (.aload 8, 2) := by decide +kernel
theorem d_PR_divide_145 : decode M_PR_divide.2.1 145 = .ok (.getfield 69, 3) := by decide +kernel
theorem d_PR_divide_148 : decode M_PR_divide.2.1 148 = .ok (.iadd, 1) := by decide +kernel
theorem d_PR_divide_149 : decode M_PR_divide.2.1 149 = .ok (.istore 14, 2) := by decide +kernel
theorem d_PR_divide_151 : decode M_PR_divide.2.1 151 = .ok (.aload 6, 2) := by decide +kernel
theorem d_PR_divide_153 : decode M_PR_divide.2.1 153 = .ok (.getfield 69, 3) := by decide +kernel
theorem d_PR_divide_156 : decode M_PR_divide.2.1 156 = .ok (.iload 14, 2) := by decide +kernel
theorem d_PR_divide_158 : decode M_PR_divide.2.1 158 = .ok (.invokestatic 121, 3) := by decide +kernel
theorem d_PR_divide_161 : decode M_PR_divide.2.1 161 = .ok (.istore 15, 2) := by decide +kernel
theorem d_PR_divide_163 : decode M_PR_divide.2.1 163 = .ok (.iload 15, 2) := by decide +kernel
theorem d_PR_divide_165 : decode M_PR_divide.2.1 165 = .ok (.lload 10, 2) := by decide +kernel
theorem d_PR_divide_167 : decode M_PR_divide.2.1 167 = .ok (.aload 6, 2) := by decide +kernel
theorem d_PR_divide_169 : decode M_PR_divide.2.1 169 = .ok (.getfield 69, 3) := by decide +kernel
theorem d_PR_divide_172 : decode M_PR_divide.2.1 172 = .ok (.lload 12, 2) := by decide +kernel
theorem d_PR_divide_174 : decode M_PR_divide.2.1 174 = .ok (.iload 14, 2) := by decide +kernel
theorem d_PR_divide_176 : decode M_PR_divide.2.1 176 = .ok (.invokestatic 127, 3) := by decide +kernel
theorem d_PR_divide_179 : decode M_PR_divide.2.1 179 = .ok (.lstore 16, 2) := by decide +kernel
theorem d_PR_divide_181 : decode M_PR_divide.2.1 181 = .ok (.aload_n 0, 1) := by decide +kernel
theorem d_PR_divide_182 : decode M_PR_divide.2.1 182 = .ok (.aload 9, 2) := by decide +kernel
theorem d_PR_divide_184 : decode M_PR_divide.2.1 184 = .ok (.lload 16, 2) := by decide +kernel
theorem d_PR_divide_186 : decode M_PR_divide.2.1 186 = .ok (.iload 15, 2) := by decide +kernel
theorem d_PR_divide_188 : decode M_PR_divide.2.1 188 = .ok (.lconst 1, 1) := by decide +kernel
theorem d_PR_divide_189 : decode M_PR_divide.2.1 189 = .ok (.iconst 0, 1) := by decide +kernel
theorem d_PR_divide_190 : decode M_PR_divide.2.1 190 = .ok (.invokevirtual 111, 3) := by decide +kernel
theorem d_PR_divide_193 : decode M_PR_divide.2.1 193 = .ok (.ifCond .eq 7, 3) := by decide +kernel
theorem d_PR_divide_196 : decode M_PR_divide.2.1 196 = .ok (.iconst 0, 1) := by decide +kernel
theorem d_PR_divide_197 : decode M_PR_divide.2.1 197 = .ok (.goto 4, 3) := by decide +kernel
theorem d_PR_divide_200 : decode M_PR_divide.2.1 200 = .ok (.iconst 2, 1) := by decide +kernel
theorem d_PR_divide_201 : decode M_PR_divide.2.1 201 = .ok (.ireturn, 1) := by decide +kernel
theorem d_PR_remainderAt_0 : decode M_PR_remainderAt.2.1 0 = .ok (.lload_n 1, 1) := by decide +kernel
theorem d_PR_remainderAt_1 : decode M_PR_remainderAt.2.1 1 = .ok (.iload 6, 2) := by decide +kernel
theorem d_PR_remainderAt_3 : decode M_PR_remainderAt.2.1 3 = .ok (.iload_n 3, 1) := by decide +kernel
theorem d_PR_remainderAt_4 : decode M_PR_remainderAt.2.1 4 = .ok (.isub, 1) := by decide +kernel
theorem d_PR_remainderAt_5 : decode M_PR_remainderAt.2.1 5 = .ok (.lload 4, 2) := by decide +kernel
theorem d_PR_remainderAt_7 : decode M_PR_remainderAt.2.1 7 = .ok (.iconst 0, 1) := by decide +kernel
theorem d_PR_remainderAt_8 : decode M_PR_remainderAt.2.1 8 = .ok (.invokestatic 144, 3) := by decide +kernel
theorem d_PR_remainderAt_11 : decode M_PR_remainderAt.2.1 11 = .ok (.lstore 7, 2) := by decide +kernel
theorem d_PR_remainderAt_13 : decode M_PR_remainderAt.2.1 13 = .ok (.lload_n 1, 1) := by decide +kernel
theorem d_PR_remainderAt_14 : decode M_PR_remainderAt.2.1 14 = .ok (.iload_n 0, 1) := by decide +kernel
theorem d_PR_remainderAt_15 : decode M_PR_remainderAt.2.1 15 = .ok (.iload_n 3, 1) := by decide +kernel
theorem d_PR_remainderAt_16 : decode M_PR_remainderAt.2.1 16 = .ok (.isub, 1) := by decide +kernel
theorem d_PR_remainderAt_17 : decode M_PR_remainderAt.2.1 17 = .ok (.invokestatic 148, 3) := by decide +kernel
theorem d_PR_remainderAt_20 : decode M_PR_remainderAt.2.1 20 = .ok (.lmul, 1) := by decide +kernel
theorem d_PR_remainderAt_21 : decode M_PR_remainderAt.2.1 21 = .ok (.lload 4, 2) := by decide +kernel
theorem d_PR_remainderAt_23 : decode M_PR_remainderAt.2.1 23 = .ok (.lload 7, 2) := by decide +kernel
theorem d_PR_remainderAt_25 : decode M_PR_remainderAt.2.1 25 = .ok (.lmul, 1) := by decide +kernel
theorem d_PR_remainderAt_26 : decode M_PR_remainderAt.2.1 26 = .ok (.iload_n 0, 1) := by decide +kernel
theorem d_PR_remainderAt_27 : decode M_PR_remainderAt.2.1 27 = .ok (.iload 6, 2) := by decide +kernel
theorem d_PR_remainderAt_29 : decode M_PR_remainderAt.2.1 29 = .ok (.isub, 1) := by decide +kernel
theorem d_PR_remainderAt_30 : decode M_PR_remainderAt.2.1 30 = .ok (.invokestatic 148, 3) := by decide +kernel
theorem d_PR_remainderAt_33 : decode M_PR_remainderAt.2.1 33 = .ok (.lmul, 1) := by decide +kernel
theorem d_PR_remainderAt_34 : decode M_PR_remainderAt.2.1 34 = .ok (.lsub, 1) := by decide +kernel
theorem d_PR_remainderAt_35 : decode M_PR_remainderAt.2.1 35 = .ok (.lreturn, 1) := by decide +kernel
theorem d_PR_addTo_0 : decode M_PR_addTo.2.1 0 = .ok (.aload_n 0, 1) := by decide +kernel
theorem d_PR_addTo_1 : decode M_PR_addTo.2.1 1 = .ok (.iload_n 1, 1) := by decide +kernel
theorem d_PR_addTo_2 : decode M_PR_addTo.2.1 2 = .ok (.invokevirtual 59, 3) := by decide +kernel
theorem d_PR_addTo_5 : decode M_PR_addTo.2.1 5 = .ok (.astore 5, 2) := by decide +kernel
theorem d_PR_addTo_7 : decode M_PR_addTo.2.1 7 = .ok (.iload 4, 2) := by decide +kernel
theorem d_PR_addTo_9 : decode M_PR_addTo.2.1 9 = .ok (.invokestatic 104, 3) := by decide +kernel
theorem d_PR_addTo_12 : decode M_PR_addTo.2.1 12 = .ok (.ifCond .eq 20, 3) := by decide +kernel
theorem d_PR_addTo_15 : decode M_PR_addTo.2.1 15 = .ok (.aload 5, 2) := by decide +kernel
theorem d_PR_addTo_17 : decode M_PR_addTo.2.1 17 = .ok (.invokestatic 107, 3) := by decide +kernel
theorem d_PR_addTo_20 : decode M_PR_addTo.2.1 20 = .ok (.ifCond .eq 12, 3) := by decide +kernel
theorem d_PR_addTo_23 : decode M_PR_addTo.2.1 23 = .ok (.aload_n 0, 1) := by decide +kernel
theorem d_PR_addTo_24 : decode M_PR_addTo.2.1 24 = .ok (.iload_n 2, 1) := by decide +kernel
theorem d_PR_addTo_25 : decode M_PR_addTo.2.1 25 = .ok (.iload_n 3, 1) := by decide +kernel
theorem d_PR_addTo_26 : decode M_PR_addTo.2.1 26 = .ok (.invokevirtual 131, 3) := by decide +kernel
theorem d_PR_addTo_29 : decode M_PR_addTo.2.1 29 = .ok (.ifCond .ne 5, 3) := by decide +kernel
theorem d_PR_addTo_32 : decode M_PR_addTo.2.1 32 = .ok (.iconst (-1), 1) := by decide +kernel
theorem d_PR_addTo_33 : decode M_PR_addTo.2.1 33 = .ok (.ireturn, 1) := by decide +kernel
theorem d_PR_addTo_34 : decode M_PR_addTo.2.1 34 = .ok (.aload_n 0, 1) := by decide +kernel
theorem d_PR_addTo_35 : decode M_PR_addTo.2.1 35 = .ok (.getfield 29, 3) := by decide +kernel
theorem d_PR_addTo_38 : decode M_PR_addTo.2.1 38 = .ok (.aload 5, 2) := by decide +kernel
theorem d_PR_addTo_40 : decode M_PR_addTo.2.1 40 = .ok (.invokevirtual 89, 3) := by decide +kernel
theorem d_PR_addTo_43 : decode M_PR_addTo.2.1 43 = .ok (.lstore 6, 2) := by decide +kernel
theorem d_PR_addTo_45 : decode M_PR_addTo.2.1 45 = .ok (.lload 6, 2) := by decide +kernel
theorem d_PR_addTo_47 : decode M_PR_addTo.2.1 47 = .ok (.ldc2_w 87, 3) := by decide +kernel
theorem d_PR_addTo_50 : decode M_PR_addTo.2.1 50 = .ok (.lcmp, 1) := by decide +kernel
theorem d_PR_addTo_51 : decode M_PR_addTo.2.1 51 = .ok (.ifCond .eq 12, 3) := by decide +kernel
theorem d_PR_addTo_54 : decode M_PR_addTo.2.1 54 = .ok (.aload_n 0, 1) := by decide +kernel
theorem d_PR_addTo_55 : decode M_PR_addTo.2.1 55 = .ok (.iload_n 2, 1) := by decide +kernel
theorem d_PR_addTo_56 : decode M_PR_addTo.2.1 56 = .ok (.iload_n 3, 1) := by decide +kernel
theorem d_PR_addTo_57 : decode M_PR_addTo.2.1 57 = .ok (.invokevirtual 135, 3) := by decide +kernel
theorem d_PR_addTo_60 : decode M_PR_addTo.2.1 60 = .ok (.ifCond .ne 8, 3) := by decide +kernel
theorem d_PR_addTo_63 : decode M_PR_addTo.2.1 63 = .ok (.aload_n 0, 1) := by decide +kernel
theorem d_PR_addTo_64 : decode M_PR_addTo.2.1 64 = .ok (.invokevirtual 97, 3) := by decide +kernel
theorem d_PR_addTo_67 : decode M_PR_addTo.2.1 67 = .ok (.ireturn, 1) := by decide +kernel
theorem d_PR_addTo_68 : decode M_PR_addTo.2.1 68 = .ok (.lload 6, 2) := by decide +kernel
theorem d_PR_addTo_70 : decode M_PR_addTo.2.1 70 = .ok (.aload 5, 2) := by decide +kernel
theorem d_PR_addTo_72 : decode M_PR_addTo.2.1 72 = .ok (.getfield 69, 3) := by decide +kernel
theorem d_PR_addTo_75 : decode M_PR_addTo.2.1 75 = .ok (.invokestatic 115, 3) := by decide +kernel
theorem d_PR_addTo_78 : decode M_PR_addTo.2.1 78 = .ok (.lstore 8, 2) := by decide +kernel
theorem d_PR_addTo_80 : decode M_PR_addTo.2.1 80 = .ok (.iconst 0, 1) := by decide +kernel
theorem d_PR_addTo_81 : decode M_PR_addTo.2.1 81 = .ok (.istore 10, 2) := by decide +kernel
theorem d_PR_addTo_83 : decode M_PR_addTo.2.1 83 = .ok (.iload_n 2, 1) := by decide +kernel
theorem d_PR_addTo_84 : decode M_PR_addTo.2.1 84 = .ok (.istore 11, 2) := by decide +kernel
theorem d_PR_addTo_86 : decode M_PR_addTo.2.1 86 = .ok (.iload 11, 2) := by decide +kernel
theorem d_PR_addTo_88 : decode M_PR_addTo.2.1 88 = .ok (.iload_n 3, 1) := by decide +kernel
theorem d_PR_addTo_89 : decode M_PR_addTo.2.1 89 = .ok (.if_icmp .gt 69, 3) := by decide +kernel
theorem d_PR_addTo_92 : decode M_PR_addTo.2.1 92 = .ok (.aload_n 0, 1) := by decide +kernel
theorem d_PR_addTo_93 : decode M_PR_addTo.2.1 93 = .ok (.iload 11, 2) := by decide +kernel
theorem d_PR_addTo_95 : decode M_PR_addTo.2.1 95 = .ok (.invokevirtual 59, 3) := by decide +kernel
theorem d_PR_addTo_98 : decode M_PR_addTo.2.1 98 = .ok (.astore 12, 2) := by decide +kernel
theorem d_PR_addTo_100 : decode M_PR_addTo.2.1 100 = .ok (.aload 12, 2) := by decide +kernel
theorem d_PR_addTo_102 : decode M_PR_addTo.2.1 102 = .ok (.invokestatic 107, 3) := by decide +kernel
theorem d_PR_addTo_105 : decode M_PR_addTo.2.1 105 = .ok (.ifCond .eq 47, 3) := by decide +kernel
theorem d_PR_addTo_108 : decode M_PR_addTo.2.1 108 = .ok (.aload_n 0, 1) := by decide +kernel
theorem d_PR_addTo_109 : decode M_PR_addTo.2.1 109 = .ok (.getfield 33, 3) := by decide +kernel
theorem d_PR_addTo_112 : decode M_PR_addTo.2.1 112 = .ok (.iload 11, 2) := by decide +kernel
theorem d_PR_addTo_114 : decode M_PR_addTo.2.1 114 = .ok (.laload, 1) := by decide +kernel
theorem d_PR_addTo_115 : decode M_PR_addTo.2.1 115 = .ok (.aload 12, 2) := by decide +kernel
theorem d_PR_addTo_117 : decode M_PR_addTo.2.1 117 = .ok (.getfield 69, 3) := by decide +kernel
theorem d_PR_addTo_120 : decode M_PR_addTo.2.1 120 = .ok (.invokestatic 115, 3) := by decide +kernel
theorem d_PR_addTo_123 : decode M_PR_addTo.2.1 123 = .ok (.lload 8, 2) := by decide +kernel
theorem d_PR_addTo_125 : decode M_PR_addTo.2.1 125 = .ok (.ladd, 1) := by decide +kernel
theorem d_PR_addTo_126 : decode M_PR_addTo.2.1 126 = .ok (.lstore 13, 2) := by decide +kernel
theorem d_PR_addTo_128 : decode M_PR_addTo.2.1 128 = .ok (.aload_n 0, 1) := by decide +kernel
theorem d_PR_addTo_129 : decode M_PR_addTo.2.1 129 = .ok (.aload 12, 2) := by decide +kernel
theorem d_PR_addTo_131 : decode M_PR_addTo.2.1 131 = .ok (.lload 13, 2) := by decide +kernel
theorem d_PR_addTo_133 : decode M_PR_addTo.2.1 133 = .ok (.iconst 4, 1) := by decide +kernel
theorem d_PR_addTo_134 : decode M_PR_addTo.2.1 134 = .ok (.lconst 1, 1) := by decide +kernel
theorem d_PR_addTo_135 : decode M_PR_addTo.2.1 135 = .ok (.iload 4, 2) := by decide +kernel
theorem d_PR_addTo_137 : decode M_PR_addTo.2.1 137 = .ok (.invokevirtual 111, 3) := by decide +kernel
theorem d_PR_addTo_140 : decode M_PR_addTo.2.1 140 = .ok (.ifCond .ne 12, 3) := by decide +kernel
theorem d_PR_addTo_143 : decode M_PR_addTo.2.1 143 = .ok (.iload 10, 2) := by decide +kernel
theorem d_PR_addTo_145 : decode M_PR_addTo.2.1 145 = .ok (.iconst 1, 1) := by decide +kernel
theorem d_PR_addTo_146 : decode M_PR_addTo.2.1 146 = .ok (.iload 11, 2) := by decide +kernel
theorem d_PR_addTo_148 : decode M_PR_addTo.2.1 148 = .ok (.ishl, 1) := by decide +kernel
theorem d_PR_addTo_149 : decode M_PR_addTo.2.1 149 = .ok (.iadd, 1) := by decide +kernel
theorem d_PR_addTo_150 : decode M_PR_addTo.2.1 150 = .ok (.istore 10, 2) := by decide +kernel
theorem d_PR_addTo_152 : decode M_PR_addTo.2.1 152 = .ok (.iinc 11 1, 3) := by decide +kernel
theorem d_PR_addTo_155 : decode M_PR_addTo.2.1 155 = .ok (.goto (-69), 3) := by decide +kernel
theorem d_PR_addTo_158 : decode M_PR_addTo.2.1 158 = .ok (.iload 10, 2) := by decide +kernel
theorem d_PR_addTo_160 : decode M_PR_addTo.2.1 160 = .ok (.ireturn, 1) := by decide +kernel
theorem d_PR_isRange_0 : decode M_PR_isRange.2.1 0 = .ok (.iload_n 1, 1) := by decide +kernel
theorem d_PR_isRange_1 : decode M_PR_isRange.2.1 1 = .ok (.ifCond .lt 20, 3) := by decide +kernel
theorem d_PR_isRange_4 : decode M_PR_isRange.2.1 4 = .ok (.iload_n 1, 1) := by decide +kernel
theorem d_PR_isRange_5 : decode M_PR_isRange.2.1 5 = .ok (.iload_n 2, 1) := by decide +kernel
theorem d_PR_isRange_6 : decode M_PR_isRange.2.1 6 = .ok (.if_icmp .gt 15, 3) := by decide +kernel
theorem d_PR_isRange_9 : decode M_PR_isRange.2.1 9 = .ok (.iload_n 2, 1) := by decide +kernel
theorem d_PR_isRange_10 : decode M_PR_isRange.2.1 10 = .ok (.aload_n 0, 1) := by decide +kernel
theorem d_PR_isRange_11 : decode M_PR_isRange.2.1 11 = .ok (.getfield 53, 3) := by decide +kernel
theorem d_PR_isRange_14 : decode M_PR_isRange.2.1 14 = .ok (.if_icmp .ge 7, 3) := by decide +kernel
theorem d_PR_isRange_17 : decode M_PR_isRange.2.1 17 = .ok (.iconst 1, 1) := by decide +kernel
theorem d_PR_isRange_18 : decode M_PR_isRange.2.1 18 = .ok (.goto 4, 3) := by decide +kernel
theorem d_PR_isRange_21 : decode M_PR_isRange.2.1 21 = .ok (.iconst 0, 1) := by decide +kernel
theorem d_PR_isRange_22 : decode M_PR_isRange.2.1 22 = .ok (.ireturn, 1) := by decide +kernel
theorem d_PR_readRange_0 : decode M_PR_readRange.2.1 0 = .ok (.iload_n 1, 1) := by decide +kernel
theorem d_PR_readRange_1 : decode M_PR_readRange.2.1 1 = .ok (.istore_n 3, 1) := by decide +kernel
theorem d_PR_readRange_2 : decode M_PR_readRange.2.1 2 = .ok (.iload_n 3, 1) := by decide +kernel
theorem d_PR_readRange_3 : decode M_PR_readRange.2.1 3 = .ok (.iload_n 2, 1) := by decide +kernel
theorem d_PR_readRange_4 : decode M_PR_readRange.2.1 4 = .ok (.if_icmp .gt 54, 3) := by decide +kernel
theorem d_PR_readRange_7 : decode M_PR_readRange.2.1 7 = .ok (.aload_n 0, 1) := by decide +kernel
theorem d_PR_readRange_8 : decode M_PR_readRange.2.1 8 = .ok (.iload_n 3, 1) := by decide +kernel
theorem d_PR_readRange_9 : decode M_PR_readRange.2.1 9 = .ok (.invokevirtual 59, 3) := by decide +kernel
theorem d_PR_readRange_12 : decode M_PR_readRange.2.1 12 = .ok (.astore 4, 2) := by decide +kernel
theorem d_PR_readRange_14 : decode M_PR_readRange.2.1 14 = .ok (.aload 4, 2) := by decide +kernel
theorem d_PR_readRange_16 : decode M_PR_readRange.2.1 16 = .ok (.invokestatic 107, 3) := by decide +kernel
theorem d_PR_readRange_19 : decode M_PR_readRange.2.1 19 = .ok (.ifCond .eq 33, 3) := by decide +kernel
theorem d_PR_readRange_22 : decode M_PR_readRange.2.1 22 = .ok (.aload_n 0, 1) := by decide +kernel
theorem d_PR_readRange_23 : decode M_PR_readRange.2.1 23 = .ok (.getfield 33, 3) := by decide +kernel
theorem d_PR_readRange_26 : decode M_PR_readRange.2.1 26 = .ok (.iload_n 3, 1) := by decide +kernel
theorem d_PR_readRange_27 : decode M_PR_readRange.2.1 27 = .ok (.aload_n 0, 1) := by decide +kernel
theorem d_PR_readRange_28 : decode M_PR_readRange.2.1 28 = .ok (.getfield 29, 3) := by decide +kernel
theorem d_PR_readRange_31 : decode M_PR_readRange.2.1 31 = .ok (.aload 4, 2) := by decide +kernel
theorem d_PR_readRange_33 : decode M_PR_readRange.2.1 33 = .ok (.invokevirtual 89, 3) := by decide +kernel
theorem d_PR_readRange_36 : decode M_PR_readRange.2.1 36 = .ok (.lastore, 1) := by decide +kernel
theorem d_PR_readRange_37 : decode M_PR_readRange.2.1 37 = .ok (.aload_n 0, 1) := by decide +kernel
theorem d_PR_readRange_38 : decode M_PR_readRange.2.1 38 = .ok (.getfield 33, 3) := by decide +kernel
theorem d_PR_readRange_41 : decode M_PR_readRange.2.1 41 = .ok (.iload_n 3, 1) := by decide +kernel
theorem d_PR_readRange_42 : decode M_PR_readRange.2.1 42 = .ok (.laload, 1) := by decide +kernel
theorem d_PR_readRange_43 : decode M_PR_readRange.2.1 43 = .ok (.ldc2_w 87, 3) := by decide +kernel
theorem d_PR_readRange_46 : decode M_PR_readRange.2.1 46 = .ok (.lcmp, 1) := by decide +kernel
theorem d_PR_readRange_47 : decode M_PR_readRange.2.1 47 = .ok (.ifCond .ne 5, 3) := by decide +kernel
theorem d_PR_readRange_50 : decode M_PR_readRange.2.1 50 = .ok (.iconst 0, 1) := by decide +kernel
theorem d_PR_readRange_51 : decode M_PR_readRange.2.1 51 = .ok (.ireturn, 1) := by decide +kernel
theorem d_PR_readRange_52 : decode M_PR_readRange.2.1 52 = .ok (.iinc 3 1, 3) := by decide +kernel
theorem d_PR_readRange_55 : decode M_PR_readRange.2.1 55 = .ok (.goto (-53), 3) := by decide +kernel
theorem d_PR_readRange_58 : decode M_PR_readRange.2.1 58 = .ok (.iconst 1, 1) := by decide +kernel
theorem d_PR_readRange_59 : decode M_PR_readRange.2.1 59 = .ok (.ireturn, 1) := by decide +kernel
theorem d_PR_total_0 : decode M_PR_total.2.1 0 = .ok (.aload_n 0, 1) := by decide +kernel
theorem d_PR_total_1 : decode M_PR_total.2.1 1 = .ok (.iload_n 3, 1) := by decide +kernel
theorem d_PR_total_2 : decode M_PR_total.2.1 2 = .ok (.invokevirtual 59, 3) := by decide +kernel
theorem d_PR_total_5 : decode M_PR_total.2.1 5 = .ok (.astore 5, 2) := by decide +kernel
theorem d_PR_total_7 : decode M_PR_total.2.1 7 = .ok (.iload 4, 2) := by decide +kernel
theorem d_PR_total_9 : decode M_PR_total.2.1 9 = .ok (.invokestatic 104, 3) := by decide +kernel
theorem d_PR_total_12 : decode M_PR_total.2.1 12 = .ok (.ifCond .eq 17, 3) := by decide +kernel
theorem d_PR_total_15 : decode M_PR_total.2.1 15 = .ok (.aload 5, 2) := by decide +kernel
theorem d_PR_total_17 : decode M_PR_total.2.1 17 = .ok (.ifnull 12, 3) := by decide +kernel
theorem d_PR_total_20 : decode M_PR_total.2.1 20 = .ok (.aload_n 0, 1) := by decide +kernel
theorem d_PR_total_21 : decode M_PR_total.2.1 21 = .ok (.iload_n 1, 1) := by decide +kernel
theorem d_PR_total_22 : decode M_PR_total.2.1 22 = .ok (.iload_n 2, 1) := by decide +kernel
theorem d_PR_total_23 : decode M_PR_total.2.1 23 = .ok (.invokevirtual 131, 3) := by decide +kernel
theorem d_PR_total_26 : decode M_PR_total.2.1 26 = .ok (.ifCond .ne 5, 3) := by decide +kernel
theorem d_PR_total_29 : decode M_PR_total.2.1 29 = .ok (.iconst (-1), 1) := by decide +kernel
theorem d_PR_total_30 : decode M_PR_total.2.1 30 = .ok (.ireturn, 1) := by decide +kernel
theorem d_PR_total_31 : decode M_PR_total.2.1 31 = .ok (.aload_n 0, 1) := by decide +kernel
theorem d_PR_total_32 : decode M_PR_total.2.1 32 = .ok (.iload_n 1, 1) := by decide +kernel
theorem d_PR_total_33 : decode M_PR_total.2.1 33 = .ok (.iload_n 2, 1) := by decide +kernel
theorem d_PR_total_34 : decode M_PR_total.2.1 34 = .ok (.invokevirtual 135, 3) := by decide +kernel
theorem d_PR_total_37 : decode M_PR_total.2.1 37 = .ok (.ifCond .ne 8, 3) := by decide +kernel
theorem d_PR_total_40 : decode M_PR_total.2.1 40 = .ok (.aload_n 0, 1) := by decide +kernel
theorem d_PR_total_41 : decode M_PR_total.2.1 41 = .ok (.invokevirtual 97, 3) := by decide +kernel
theorem d_PR_total_44 : decode M_PR_total.2.1 44 = .ok (.ireturn, 1) := by decide +kernel
theorem d_PR_total_45 : decode M_PR_total.2.1 45 = .ok (.lconst 0, 1) := by decide +kernel
theorem d_PR_total_46 : decode M_PR_total.2.1 46 = .ok (.lstore 6, 2) := by decide +kernel
theorem d_PR_total_48 : decode M_PR_total.2.1 48 = .ok (.iload_n 1, 1) := by decide +kernel
theorem d_PR_total_49 : decode M_PR_total.2.1 49 = .ok (.istore 8, 2) := by decide +kernel
theorem d_PR_total_51 : decode M_PR_total.2.1 51 = .ok (.iload 8, 2) := by decide +kernel
theorem d_PR_total_53 : decode M_PR_total.2.1 53 = .ok (.iload_n 2, 1) := by decide +kernel
theorem d_PR_total_54 : decode M_PR_total.2.1 54 = .ok (.if_icmp .gt 45, 3) := by decide +kernel
theorem d_PR_total_57 : decode M_PR_total.2.1 57 = .ok (.aload_n 0, 1) := by decide +kernel
theorem d_PR_total_58 : decode M_PR_total.2.1 58 = .ok (.iload 8, 2) := by decide +kernel
theorem d_PR_total_60 : decode M_PR_total.2.1 60 = .ok (.invokevirtual 59, 3) := by decide +kernel
theorem d_PR_total_63 : decode M_PR_total.2.1 63 = .ok (.astore 9, 2) := by decide +kernel
theorem d_PR_total_65 : decode M_PR_total.2.1 65 = .ok (.aload 9, 2) := by decide +kernel
theorem d_PR_total_67 : decode M_PR_total.2.1 67 = .ok (.invokestatic 107, 3) := by decide +kernel
theorem d_PR_total_70 : decode M_PR_total.2.1 70 = .ok (.ifCond .eq 23, 3) := by decide +kernel
theorem d_PR_total_73 : decode M_PR_total.2.1 73 = .ok (.lload 6, 2) := by decide +kernel
theorem d_PR_total_75 : decode M_PR_total.2.1 75 = .ok (.aload_n 0, 1) := by decide +kernel
theorem d_PR_total_76 : decode M_PR_total.2.1 76 = .ok (.getfield 33, 3) := by decide +kernel
theorem d_PR_total_79 : decode M_PR_total.2.1 79 = .ok (.iload 8, 2) := by decide +kernel
theorem d_PR_total_81 : decode M_PR_total.2.1 81 = .ok (.laload, 1) := by decide +kernel
theorem d_PR_total_82 : decode M_PR_total.2.1 82 = .ok (.aload 9, 2) := by decide +kernel
theorem d_PR_total_84 : decode M_PR_total.2.1 84 = .ok (.getfield 69, 3) := by decide +kernel
theorem d_PR_total_87 : decode M_PR_total.2.1 87 = .ok (.invokestatic 115, 3) := by decide +kernel
theorem d_PR_total_90 : decode M_PR_total.2.1 90 = .ok (.ladd, 1) := by decide +kernel
theorem d_PR_total_91 : decode M_PR_total.2.1 91 = .ok (.lstore 6, 2) := by decide +kernel
theorem d_PR_total_93 : decode M_PR_total.2.1 93 = .ok (.iinc 8 1, 3) := by decide +kernel
theorem d_PR_total_96 : decode M_PR_total.2.1 96 = .ok (.goto (-45), 3) := by decide +kernel
theorem d_PR_total_99 : decode M_PR_total.2.1 99 = .ok (.aload_n 0, 1) := by decide +kernel
theorem d_PR_total_100 : decode M_PR_total.2.1 100 = .ok (.aload 5, 2) := by decide +kernel
theorem d_PR_total_102 : decode M_PR_total.2.1 102 = .ok (.lload 6, 2) := by decide +kernel
theorem d_PR_total_104 : decode M_PR_total.2.1 104 = .ok (.iconst 4, 1) := by decide +kernel
theorem d_PR_total_105 : decode M_PR_total.2.1 105 = .ok (.lconst 1, 1) := by decide +kernel
theorem d_PR_total_106 : decode M_PR_total.2.1 106 = .ok (.iload 4, 2) := by decide +kernel
theorem d_PR_total_108 : decode M_PR_total.2.1 108 = .ok (.invokevirtual 111, 3) := by decide +kernel
theorem d_PR_total_111 : decode M_PR_total.2.1 111 = .ok (.ifCond .eq 7, 3) := by decide +kernel
theorem d_PR_total_114 : decode M_PR_total.2.1 114 = .ok (.iconst 0, 1) := by decide +kernel
theorem d_PR_total_115 : decode M_PR_total.2.1 115 = .ok (.goto 4, 3) := by decide +kernel
theorem d_PR_total_118 : decode M_PR_total.2.1 118 = .ok (.iconst 1, 1) := by decide +kernel
theorem d_PR_total_119 : decode M_PR_total.2.1 119 = .ok (.ireturn, 1) := by decide +kernel
theorem d_PR_sizeErrors_0 : decode M_PR_sizeErrors.2.1 0 = .ok (.aload_n 0, 1) := by decide +kernel
theorem d_PR_sizeErrors_1 : decode M_PR_sizeErrors.2.1 1 = .ok (.getfield 138, 3) := by decide +kernel
theorem d_PR_sizeErrors_4 : decode M_PR_sizeErrors.2.1 4 = .ok (.ireturn, 1) := by decide +kernel
theorem d_PR_dataErrors_0 : decode M_PR_dataErrors.2.1 0 = .ok (.aload_n 0, 1) := by decide +kernel
theorem d_PR_dataErrors_1 : decode M_PR_dataErrors.2.1 1 = .ok (.getfield 141, 3) := by decide +kernel
theorem d_PR_dataErrors_4 : decode M_PR_dataErrors.2.1 4 = .ok (.ireturn, 1) := by decide +kernel
theorem d_MD_init_0 : decode M_MD_init.2.1 0 = .ok (.aload_n 0, 1) := by decide +kernel
theorem d_MD_init_1 : decode M_MD_init.2.1 1 = .ok (.invokespecial 1, 3) := by decide +kernel
theorem d_MD_init_4 : decode M_MD_init.2.1 4 = .ok (.aload_n 0, 1) := by decide +kernel
theorem d_MD_init_5 : decode M_MD_init.2.1 5 = .ok (.bipush 64, 2) := by decide +kernel
theorem d_MD_init_7 : decode M_MD_init.2.1 7 = .ok (.newarray .int, 2) := by decide +kernel
theorem d_MD_init_9 : decode M_MD_init.2.1 9 = .ok (.putfield 7, 3) := by decide +kernel
theorem d_MD_init_12 : decode M_MD_init.2.1 12 = .ok (.aload_n 0, 1) := by decide +kernel
theorem d_MD_init_13 : decode M_MD_init.2.1 13 = .ok (.bipush 24, 2) := by decide +kernel
theorem d_MD_init_15 : decode M_MD_init.2.1 15 = .ok (.newarray .int, 2) := by decide +kernel
theorem d_MD_init_17 : decode M_MD_init.2.1 17 = .ok (.putfield 13, 3) := by decide +kernel
theorem d_MD_init_20 : decode M_MD_init.2.1 20 = .ok (.aload_n 0, 1) := by decide +kernel
theorem d_MD_init_21 : decode M_MD_init.2.1 21 = .ok (.bipush 18, 2) := by decide +kernel
theorem d_MD_init_23 : decode M_MD_init.2.1 23 = .ok (.newarray .int, 2) := by decide +kernel
theorem d_MD_init_25 : decode M_MD_init.2.1 25 = .ok (.putfield 16, 3) := by decide +kernel
theorem d_MD_init_28 : decode M_MD_init.2.1 28 = .ok (.aload_n 0, 1) := by decide +kernel
theorem d_MD_init_29 : decode M_MD_init.2.1 29 = .ok (.bipush 12, 2) := by decide +kernel
theorem d_MD_init_31 : decode M_MD_init.2.1 31 = .ok (.newarray .int, 2) := by decide +kernel
theorem d_MD_init_33 : decode M_MD_init.2.1 33 = .ok (.putfield 19, 3) := by decide +kernel
theorem d_MD_init_36 : decode M_MD_init.2.1 36 = .ok (.aload_n 0, 1) := by decide +kernel
theorem d_MD_init_37 : decode M_MD_init.2.1 37 = .ok (.bipush 12, 2) := by decide +kernel
theorem d_MD_init_39 : decode M_MD_init.2.1 39 = .ok (.newarray .int, 2) := by decide +kernel
theorem d_MD_init_41 : decode M_MD_init.2.1 41 = .ok (.putfield 22, 3) := by decide +kernel
theorem d_MD_init_44 : decode M_MD_init.2.1 44 = .ok (.aload_n 0, 1) := by decide +kernel
theorem d_MD_init_45 : decode M_MD_init.2.1 45 = .ok (.bipush 12, 2) := by decide +kernel
theorem d_MD_init_47 : decode M_MD_init.2.1 47 = .ok (.newarray .int, 2) := by decide +kernel
theorem d_MD_init_49 : decode M_MD_init.2.1 49 = .ok (.putfield 25, 3) := by decide +kernel
theorem d_MD_init_52 : decode M_MD_init.2.1 52 = .ok (.aload_n 0, 1) := by decide +kernel
theorem d_MD_init_53 : decode M_MD_init.2.1 53 = .ok (.bipush 12, 2) := by decide +kernel
theorem d_MD_init_55 : decode M_MD_init.2.1 55 = .ok (.newarray .int, 2) := by decide +kernel
theorem d_MD_init_57 : decode M_MD_init.2.1 57 = .ok (.putfield 28, 3) := by decide +kernel
theorem d_MD_init_60 : decode M_MD_init.2.1 60 = .ok (.aload_n 0, 1) := by decide +kernel
theorem d_MD_init_61 : decode M_MD_init.2.1 61 = .ok (.bipush 12, 2) := by decide +kernel
theorem d_MD_init_63 : decode M_MD_init.2.1 63 = .ok (.newarray .boolean, 2) := by decide +kernel
theorem d_MD_init_65 : decode M_MD_init.2.1 65 = .ok (.putfield 31, 3) := by decide +kernel
theorem d_MD_init_68 : decode M_MD_init.2.1 68 = .ok (.aload_n 0, 1) := by decide +kernel
theorem d_MD_init_69 : decode M_MD_init.2.1 69 = .ok (.bipush 12, 2) := by decide +kernel
theorem d_MD_init_71 : decode M_MD_init.2.1 71 = .ok (.newarray .boolean, 2) := by decide +kernel
theorem d_MD_init_73 : decode M_MD_init.2.1 73 = .ok (.putfield 35, 3) := by decide +kernel
theorem d_MD_init_76 : decode M_MD_init.2.1 76 = .ok (.aload_n 0, 1) := by decide +kernel
theorem d_MD_init_77 : decode M_MD_init.2.1 77 = .ok (.sipush 216, 3) := by decide +kernel
theorem d_MD_init_80 : decode M_MD_init.2.1 80 = .ok (.newarray .int, 2) := by decide +kernel
theorem d_MD_init_82 : decode M_MD_init.2.1 82 = .ok (.putfield 38, 3) := by decide +kernel
theorem d_MD_init_85 : decode M_MD_init.2.1 85 = .ok (.aload_n 0, 1) := by decide +kernel
theorem d_MD_init_86 : decode M_MD_init.2.1 86 = .ok (.bipush 12, 2) := by decide +kernel
theorem d_MD_init_88 : decode M_MD_init.2.1 88 = .ok (.newarray .int, 2) := by decide +kernel
theorem d_MD_init_90 : decode M_MD_init.2.1 90 = .ok (.putfield 41, 3) := by decide +kernel
theorem d_MD_init_93 : decode M_MD_init.2.1 93 = .ok (.aload_n 0, 1) := by decide +kernel
theorem d_MD_init_94 : decode M_MD_init.2.1 94 = .ok (.bipush 12, 2) := by decide +kernel
theorem d_MD_init_96 : decode M_MD_init.2.1 96 = .ok (.newarray .int, 2) := by decide +kernel
theorem d_MD_init_98 : decode M_MD_init.2.1 98 = .ok (.putfield 44, 3) := by decide +kernel
theorem d_MD_init_101 : decode M_MD_init.2.1 101 = .ok (.aload_n 0, 1) := by decide +kernel
theorem d_MD_init_102 : decode M_MD_init.2.1 102 = .ok (.bipush 12, 2) := by decide +kernel
theorem d_MD_init_104 : decode M_MD_init.2.1 104 = .ok (.newarray .int, 2) := by decide +kernel
theorem d_MD_init_106 : decode M_MD_init.2.1 106 = .ok (.putfield 47, 3) := by decide +kernel
theorem d_MD_init_109 : decode M_MD_init.2.1 109 = .ok (.aload_n 0, 1) := by decide +kernel
theorem d_MD_init_110 : decode M_MD_init.2.1 110 = .ok (.bipush 18, 2) := by decide +kernel
theorem d_MD_init_112 : decode M_MD_init.2.1 112 = .ok (.newarray .int, 2) := by decide +kernel
theorem d_MD_init_114 : decode M_MD_init.2.1 114 = .ok (.putfield 50, 3) := by decide +kernel
theorem d_MD_init_117 : decode M_MD_init.2.1 117 = .ok (.aload_n 0, 1) := by decide +kernel
theorem d_MD_init_118 : decode M_MD_init.2.1 118 = .ok (.bipush 12, 2) := by decide +kernel
theorem d_MD_init_120 : decode M_MD_init.2.1 120 = .ok (.newarray .long, 2) := by decide +kernel
theorem d_MD_init_122 : decode M_MD_init.2.1 122 = .ok (.putfield 53, 3) := by decide +kernel
theorem d_MD_init_125 : decode M_MD_init.2.1 125 = .ok (.return_, 1) := by decide +kernel
theorem d_MD_pic_0 : decode M_MD_pic.2.1 0 = .ok (.iload_n 1, 1) := by decide +kernel
theorem d_MD_pic_1 : decode M_MD_pic.2.1 1 = .ok (.bipush 32, 2) := by decide +kernel
theorem d_MD_pic_3 : decode M_MD_pic.2.1 3 = .ok (.if_icmp .lt 18, 3) := by decide +kernel
theorem d_MD_pic_6 : decode M_MD_pic.2.1 6 = .ok (.iload_n 1, 1) := by decide +kernel
theorem d_MD_pic_7 : decode M_MD_pic.2.1 7 = .ok (.bipush 126, 2) := by decide +kernel
theorem d_MD_pic_9 : decode M_MD_pic.2.1 9 = .ok (.if_icmp .gt 12, 3) := by decide +kernel
theorem d_MD_pic_12 : decode M_MD_pic.2.1 12 = .ok (.aload_n 0, 1) := by decide +kernel
theorem d_MD_pic_13 : decode M_MD_pic.2.1 13 = .ok (.getfield 57, 3) := by decide +kernel
theorem d_MD_pic_16 : decode M_MD_pic.2.1 16 = .ok (.bipush 24, 2) := by decide +kernel
theorem d_MD_pic_18 : decode M_MD_pic.2.1 18 = .ok (.if_icmp .ne 5, 3) := by decide +kernel
theorem d_MD_pic_21 : decode M_MD_pic.2.1 21 = .ok (.iconst 0, 1) := by decide +kernel
theorem d_MD_pic_22 : decode M_MD_pic.2.1 22 = .ok (.ireturn, 1) := by decide +kernel
theorem d_MD_pic_23 : decode M_MD_pic.2.1 23 = .ok (.aload_n 0, 1) := by decide +kernel
theorem d_MD_pic_24 : decode M_MD_pic.2.1 24 = .ok (.getfield 13, 3) := by decide +kernel
theorem d_MD_pic_27 : decode M_MD_pic.2.1 27 = .ok (.aload_n 0, 1) := by decide +kernel
theorem d_MD_pic_28 : decode M_MD_pic.2.1 28 = .ok (.getfield 57, 3) := by decide +kernel
theorem d_MD_pic_31 : decode M_MD_pic.2.1 31 = .ok (.iload_n 1, 1) := by decide +kernel
theorem d_MD_pic_32 : decode M_MD_pic.2.1 32 = .ok (.iastore, 1) := by decide +kernel
theorem d_MD_pic_33 : decode M_MD_pic.2.1 33 = .ok (.aload_n 0, 1) := by decide +kernel
theorem d_MD_pic_34 : decode M_MD_pic.2.1 34 = .ok (.dup, 1) := by decide +kernel
theorem d_MD_pic_35 : decode M_MD_pic.2.1 35 = .ok (.getfield 57, 3) := by decide +kernel
theorem d_MD_pic_38 : decode M_MD_pic.2.1 38 = .ok (.iconst 1, 1) := by decide +kernel
theorem d_MD_pic_39 : decode M_MD_pic.2.1 39 = .ok (.iadd, 1) := by decide +kernel
theorem d_MD_pic_40 : decode M_MD_pic.2.1 40 = .ok (.putfield 57, 3) := by decide +kernel
theorem d_MD_pic_43 : decode M_MD_pic.2.1 43 = .ok (.iconst 1, 1) := by decide +kernel
theorem d_MD_pic_44 : decode M_MD_pic.2.1 44 = .ok (.ireturn, 1) := by decide +kernel
theorem d_MD_scrap_0 : decode M_MD_scrap.2.1 0 = .ok (.aload_n 0, 1) := by decide +kernel
theorem d_MD_scrap_1 : decode M_MD_scrap.2.1 1 = .ok (.iconst 0, 1) := by decide +kernel
theorem d_MD_scrap_2 : decode M_MD_scrap.2.1 2 = .ok (.putfield 57, 3) := by decide +kernel
theorem d_MD_scrap_5 : decode M_MD_scrap.2.1 5 = .ok (.return_, 1) := by decide +kernel
theorem d_MD_field_0 : decode M_MD_field.2.1 0 = .ok (.aload_n 0, 1) := by decide +kernel
theorem d_MD_field_1 : decode M_MD_field.2.1 1 = .ok (.invokevirtual 110, 3) := by decide +kernel
theorem d_MD_field_4 : decode M_MD_field.2.1 4 = .ok (.istore_n 3, 1) := by decide +kernel
theorem d_MD_field_5 : decode M_MD_field.2.1 5 = .ok (.iload_n 3, 1) := by decide +kernel
theorem d_MD_field_6 : decode M_MD_field.2.1 6 = .ok (.ifCond .eq 21, 3) := by decide +kernel
theorem d_MD_field_9 : decode M_MD_field.2.1 9 = .ok (.aload_n 0, 1) := by decide +kernel
theorem d_MD_field_10 : decode M_MD_field.2.1 10 = .ok (.invokevirtual 114, 3) := by decide +kernel
theorem d_MD_field_13 : decode M_MD_field.2.1 13 = .ok (.ifCond .ne 10, 3) := by decide +kernel
theorem d_MD_field_16 : decode M_MD_field.2.1 16 = .ok (.aload_n 0, 1) := by decide +kernel
theorem d_MD_field_17 : decode M_MD_field.2.1 17 = .ok (.invokevirtual 117, 3) := by decide +kernel
theorem d_MD_field_20 : decode M_MD_field.2.1 20 = .ok (.ifCond .eq 7, 3) := by decide +kernel
theorem d_MD_field_23 : decode M_MD_field.2.1 23 = .ok (.iconst 1, 1) := by decide +kernel
theorem d_MD_field_24 : decode M_MD_field.2.1 24 = .ok (.goto 4, 3) := by decide +kernel
theorem d_MD_field_27 : decode M_MD_field.2.1 27 = .ok (.iconst 0, 1) := by decide +kernel
theorem d_MD_field_28 : decode M_MD_field.2.1 28 = .ok (.istore_n 3, 1) := by decide +kernel
theorem d_MD_field_29 : decode M_MD_field.2.1 29 = .ok (.iload_n 3, 1) := by decide +kernel
theorem d_MD_field_30 : decode M_MD_field.2.1 30 = .ok (.ifCond .ne 5, 3) := by decide +kernel
theorem d_MD_field_33 : decode M_MD_field.2.1 33 = .ok (.iconst (-1), 1) := by decide +kernel
theorem d_MD_field_34 : decode M_MD_field.2.1 34 = .ok (.ireturn, 1) := by decide +kernel
theorem d_MD_field_35 : decode M_MD_field.2.1 35 = .ok (.iload_n 1, 1) := by decide +kernel
theorem d_MD_field_36 : decode M_MD_field.2.1 36 = .ok (.ifCond .lt 31, 3) := by decide +kernel
theorem d_MD_field_39 : decode M_MD_field.2.1 39 = .ok (.iload_n 1, 1) := by decide +kernel
theorem d_MD_field_40 : decode M_MD_field.2.1 40 = .ok (.iconst 3, 1) := by decide +kernel
theorem d_MD_field_41 : decode M_MD_field.2.1 41 = .ok (.if_icmp .gt 26, 3) := by decide +kernel
theorem d_MD_field_44 : decode M_MD_field.2.1 44 = .ok (.aload_n 0, 1) := by decide +kernel
theorem d_MD_field_45 : decode M_MD_field.2.1 45 = .ok (.getfield 88, 3) := by decide +kernel
theorem d_MD_field_48 : decode M_MD_field.2.1 48 = .ok (.ifCond .eq 7, 3) := by decide +kernel
theorem d_MD_field_51 : decode M_MD_field.2.1 51 = .ok (.iload_n 1, 1) := by decide +kernel
theorem d_MD_field_52 : decode M_MD_field.2.1 52 = .ok (.ifCond .ne 15, 3) := by decide +kernel
theorem d_MD_field_55 : decode M_MD_field.2.1 55 = .ok (.iload_n 1, 1) := by decide +kernel
theorem d_MD_field_56 : decode M_MD_field.2.1 56 = .ok (.iconst 2, 1) := by decide +kernel
theorem d_MD_field_57 : decode M_MD_field.2.1 57 = .ok (.if_icmp .ne 13, 3) := by decide +kernel
theorem d_MD_field_60 : decode M_MD_field.2.1 60 = .ok (.aload_n 0, 1) := by decide +kernel
theorem d_MD_field_61 : decode M_MD_field.2.1 61 = .ok (.getfield 84, 3) := by decide +kernel
theorem d_MD_field_64 : decode M_MD_field.2.1 64 = .ok (.ifCond .ne 6, 3) := by decide +kernel
theorem d_MD_field_67 : decode M_MD_field.2.1 67 = .ok (.bipush (-2), 2) := by decide +kernel
theorem d_MD_field_69 : decode M_MD_field.2.1 69 = .ok (.ireturn, 1) := by decide +kernel
theorem d_MD_field_70 : decode M_MD_field.2.1 70 = .ok (.aload_n 0, 1) := by decide +kernel
theorem d_MD_field_71 : decode M_MD_field.2.1 71 = .ok (.getfield 88, 3) := by decide +kernel
theorem d_MD_field_74 : decode M_MD_field.2.1 74 = .ok (.ifCond .eq 10, 3) := by decide +kernel
theorem d_MD_field_77 : decode M_MD_field.2.1 77 = .ok (.aload_n 0, 1) := by decide +kernel
theorem d_MD_field_78 : decode M_MD_field.2.1 78 = .ok (.getfield 71, 3) := by decide +kernel
theorem d_MD_field_81 : decode M_MD_field.2.1 81 = .ok (.goto 11, 3) := by decide +kernel
theorem d_MD_field_84 : decode M_MD_field.2.1 84 = .ok (.iload_n 1, 1) := by decide +kernel
theorem d_MD_field_85 : decode M_MD_field.2.1 85 = .ok (.aload_n 0, 1) := by decide +kernel
theorem d_MD_field_86 : decode M_MD_field.2.1 86 = .ok (.getfield 97, 3) := by decide +kernel
theorem d_MD_field_89 : decode M_MD_field.2.1 89 = .ok (.invokestatic 120, 3) := by decide +kernel
theorem d_MD_field_92 : decode M_MD_field.2.1 92 = .ok (.istore 4, 2) := by decide +kernel
theorem d_MD_field_94 : decode M_MD_field.2.1 94 = .ok (.iload_n 2, 1) := by decide +kernel
theorem d_MD_field_95 : decode M_MD_field.2.1 95 = .ok (.ifCond .lt 12, 3) := by decide +kernel
theorem d_MD_field_98 : decode M_MD_field.2.1 98 = .ok (.iload_n 2, 1) := by decide +kernel
theorem d_MD_field_99 : decode M_MD_field.2.1 99 = .ok (.bipush 64, 2) := by decide +kernel
theorem d_MD_field_101 : decode M_MD_field.2.1 101 = .ok (.iload 4, 2) := by decide +kernel
theorem d_MD_field_103 : decode M_MD_field.2.1 103 = .ok (.isub, 1) := by decide +kernel
theorem d_MD_field_104 : decode M_MD_field.2.1 104 = .ok (.if_icmp .le 6, 3) := by decide +kernel
theorem d_MD_field_107 : decode M_MD_field.2.1 107 = .ok (.bipush (-3), 2) := by decide +kernel
theorem d_MD_field_109 : decode M_MD_field.2.1 109 = .ok (.ireturn, 1) := by decide +kernel
theorem d_MD_field_110 : decode M_MD_field.2.1 110 = .ok (.aload_n 0, 1) := by decide +kernel
theorem d_MD_field_111 : decode M_MD_field.2.1 111 = .ok (.getfield 123, 3) := by decide +kernel
theorem d_MD_field_114 : decode M_MD_field.2.1 114 = .ok (.bipush 12, 2) := by decide +kernel
theorem d_MD_field_116 : decode M_MD_field.2.1 116 = .ok (.if_icmp .ne 6, 3) := by decide +kernel
theorem d_MD_field_119 : decode M_MD_field.2.1 119 = .ok (.bipush (-4), 2) := by decide +kernel
theorem d_MD_field_121 : decode M_MD_field.2.1 121 = .ok (.ireturn, 1) := by decide +kernel
theorem d_MD_field_122 : decode M_MD_field.2.1 122 = .ok (.aload_n 0, 1) := by decide +kernel
theorem d_MD_field_123 : decode M_MD_field.2.1 123 = .ok (.getfield 19, 3) := by decide +kernel
theorem d_MD_field_126 : decode M_MD_field.2.1 126 = .ok (.aload_n 0, 1) := by decide +kernel
theorem d_MD_field_127 : decode M_MD_field.2.1 127 = .ok (.getfield 123, 3) := by decide +kernel
theorem d_MD_field_130 : decode M_MD_field.2.1 130 = .ok (.iload_n 2, 1) := by decide +kernel
theorem d_MD_field_131 : decode M_MD_field.2.1 131 = .ok (.iastore, 1) := by decide +kernel
theorem d_MD_field_132 : decode M_MD_field.2.1 132 = .ok (.aload_n 0, 1) := by decide +kernel
theorem d_MD_field_133 : decode M_MD_field.2.1 133 = .ok (.getfield 22, 3) := by decide +kernel
theorem d_MD_field_136 : decode M_MD_field.2.1 136 = .ok (.aload_n 0, 1) := by decide +kernel
theorem d_MD_field_137 : decode M_MD_field.2.1 137 = .ok (.getfield 123, 3) := by decide +kernel
theorem d_MD_field_140 : decode M_MD_field.2.1 140 = .ok (.iload_n 1, 1) := by decide +kernel
theorem d_MD_field_141 : decode M_MD_field.2.1 141 = .ok (.iastore, 1) := by decide +kernel
theorem d_MD_field_142 : decode M_MD_field.2.1 142 = .ok (.aload_n 0, 1) := by decide +kernel
theorem d_MD_field_143 : decode M_MD_field.2.1 143 = .ok (.getfield 25, 3) := by decide +kernel
theorem d_MD_field_146 : decode M_MD_field.2.1 146 = .ok (.aload_n 0, 1) := by decide +kernel
theorem d_MD_field_147 : decode M_MD_field.2.1 147 = .ok (.getfield 123, 3) := by decide +kernel
theorem d_MD_field_150 : decode M_MD_field.2.1 150 = .ok (.aload_n 0, 1) := by decide +kernel
theorem d_MD_field_151 : decode M_MD_field.2.1 151 = .ok (.getfield 97, 3) := by decide +kernel
theorem d_MD_field_154 : decode M_MD_field.2.1 154 = .ok (.iastore, 1) := by decide +kernel
theorem d_MD_field_155 : decode M_MD_field.2.1 155 = .ok (.aload_n 0, 1) := by decide +kernel
theorem d_MD_field_156 : decode M_MD_field.2.1 156 = .ok (.getfield 28, 3) := by decide +kernel
theorem d_MD_field_159 : decode M_MD_field.2.1 159 = .ok (.aload_n 0, 1) := by decide +kernel
theorem d_MD_field_160 : decode M_MD_field.2.1 160 = .ok (.getfield 123, 3) := by decide +kernel
theorem d_MD_field_163 : decode M_MD_field.2.1 163 = .ok (.aload_n 0, 1) := by decide +kernel
theorem d_MD_field_164 : decode M_MD_field.2.1 164 = .ok (.getfield 100, 3) := by decide +kernel
theorem d_MD_field_167 : decode M_MD_field.2.1 167 = .ok (.iastore, 1) := by decide +kernel
theorem d_MD_field_168 : decode M_MD_field.2.1 168 = .ok (.aload_n 0, 1) := by decide +kernel
theorem d_MD_field_169 : decode M_MD_field.2.1 169 = .ok (.getfield 31, 3) := by decide +kernel
theorem d_MD_field_172 : decode M_MD_field.2.1 172 = .ok (.aload_n 0, 1) := by decide +kernel
theorem d_MD_field_173 : decode M_MD_field.2.1 173 = .ok (.getfield 123, 3) := by decide +kernel
theorem d_MD_field_176 : decode M_MD_field.2.1 176 = .ok (.aload_n 0, 1) := by decide +kernel
theorem d_MD_field_177 : decode M_MD_field.2.1 177 = .ok (.getfield 84, 3) := by decide +kernel
theorem d_MD_field_180 : decode M_MD_field.2.1 180 = .ok (.bastore, 1) := by decide +kernel
theorem d_MD_field_181 : decode M_MD_field.2.1 181 = .ok (.aload_n 0, 1) := by decide +kernel
theorem d_MD_field_182 : decode M_MD_field.2.1 182 = .ok (.getfield 35, 3) := by decide +kernel
theorem d_MD_field_185 : decode M_MD_field.2.1 185 = .ok (.aload_n 0, 1) := by decide +kernel
theorem d_MD_field_186 : decode M_MD_field.2.1 186 = .ok (.getfield 123, 3) := by decide +kernel
theorem d_MD_field_189 : decode M_MD_field.2.1 189 = .ok (.aload_n 0, 1) := by decide +kernel
theorem d_MD_field_190 : decode M_MD_field.2.1 190 = .ok (.getfield 88, 3) := by decide +kernel
theorem d_MD_field_193 : decode M_MD_field.2.1 193 = .ok (.bastore, 1) := by decide +kernel
theorem d_MD_field_194 : decode M_MD_field.2.1 194 = .ok (.aload_n 0, 1) := by decide +kernel
theorem d_MD_field_195 : decode M_MD_field.2.1 195 = .ok (.getfield 41, 3) := by decide +kernel
theorem d_MD_field_198 : decode M_MD_field.2.1 198 = .ok (.aload_n 0, 1) := by decide +kernel
theorem d_MD_field_199 : decode M_MD_field.2.1 199 = .ok (.getfield 123, 3) := by decide +kernel
theorem d_MD_field_202 : decode M_MD_field.2.1 202 = .ok (.aload_n 0, 1) := by decide +kernel
theorem d_MD_field_203 : decode M_MD_field.2.1 203 = .ok (.getfield 71, 3) := by decide +kernel
theorem d_MD_field_206 : decode M_MD_field.2.1 206 = .ok (.iastore, 1) := by decide +kernel
theorem d_MD_field_207 : decode M_MD_field.2.1 207 = .ok (.aload_n 0, 1) := by decide +kernel
theorem d_MD_field_208 : decode M_MD_field.2.1 208 = .ok (.getfield 44, 3) := by decide +kernel
theorem d_MD_field_211 : decode M_MD_field.2.1 211 = .ok (.aload_n 0, 1) := by decide +kernel
theorem d_MD_field_212 : decode M_MD_field.2.1 212 = .ok (.getfield 123, 3) := by decide +kernel
theorem d_MD_field_215 : decode M_MD_field.2.1 215 = .ok (.aload_n 0, 1) := by decide +kernel
theorem d_MD_field_216 : decode M_MD_field.2.1 216 = .ok (.getfield 91, 3) := by decide +kernel
theorem d_MD_field_219 : decode M_MD_field.2.1 219 = .ok (.iastore, 1) := by decide +kernel
theorem d_MD_field_220 : decode M_MD_field.2.1 220 = .ok (.aload_n 0, 1) := by decide +kernel
theorem d_MD_field_221 : decode M_MD_field.2.1 221 = .ok (.getfield 47, 3) := by decide +kernel
theorem d_MD_field_224 : decode M_MD_field.2.1 224 = .ok (.aload_n 0, 1) := by decide +kernel
theorem d_MD_field_225 : decode M_MD_field.2.1 225 = .ok (.getfield 123, 3) := by decide +kernel
theorem d_MD_field_228 : decode M_MD_field.2.1 228 = .ok (.aload_n 0, 1) := by decide +kernel
theorem d_MD_field_229 : decode M_MD_field.2.1 229 = .ok (.getfield 94, 3) := by decide +kernel
theorem d_MD_field_232 : decode M_MD_field.2.1 232 = .ok (.iastore, 1) := by decide +kernel
theorem d_MD_field_233 : decode M_MD_field.2.1 233 = .ok (.iconst 0, 1) := by decide +kernel
theorem d_MD_field_234 : decode M_MD_field.2.1 234 = .ok (.istore 5, 2) := by decide +kernel
theorem d_MD_field_236 : decode M_MD_field.2.1 236 = .ok (.iload 5, 2) := by decide +kernel
theorem d_MD_field_238 : decode M_MD_field.2.1 238 = .ok (.aload_n 0, 1) := by decide +kernel
theorem d_MD_field_239 : decode M_MD_field.2.1 239 = .ok (.getfield 71, 3) := by decide +kernel
theorem d_MD_field_242 : decode M_MD_field.2.1 242 = .ok (.if_icmp .ge 31, 3) := by decide +kernel
theorem d_MD_field_245 : decode M_MD_field.2.1 245 = .ok (.aload_n 0, 1) := by decide +kernel
theorem d_MD_field_246 : decode M_MD_field.2.1 246 = .ok (.getfield 38, 3) := by decide +kernel
theorem d_MD_field_249 : decode M_MD_field.2.1 249 = .ok (.bipush 18, 2) := by decide +kernel
theorem d_MD_field_251 : decode M_MD_field.2.1 251 = .ok (.aload_n 0, 1) := by decide +kernel
theorem d_MD_field_252 : decode M_MD_field.2.1 252 = .ok (.getfield 123, 3) := by decide +kernel
theorem d_MD_field_255 : decode M_MD_field.2.1 255 = .ok (.imul, 1) := by decide +kernel
theorem d_MD_field_256 : decode M_MD_field.2.1 256 = .ok (.iload 5, 2) := by decide +kernel
theorem d_MD_field_258 : decode M_MD_field.2.1 258 = .ok (.iadd, 1) := by decide +kernel
theorem d_MD_field_259 : decode M_MD_field.2.1 259 = .ok (.aload_n 0, 1) := by decide +kernel
theorem d_MD_field_260 : decode M_MD_field.2.1 260 = .ok (.getfield 16, 3) := by decide +kernel
theorem d_MD_field_263 : decode M_MD_field.2.1 263 = .ok (.iload 5, 2) := by decide +kernel
theorem d_MD_field_265 : decode M_MD_field.2.1 265 = .ok (.iaload, 1) := by decide +kernel
theorem d_MD_field_266 : decode M_MD_field.2.1 266 = .ok (.iastore, 1) := by decide +kernel
theorem d_MD_field_267 : decode M_MD_field.2.1 267 = .ok (.iinc 5 1, 3) := by decide +kernel
theorem d_MD_field_270 : decode M_MD_field.2.1 270 = .ok (.goto (-34), 3) := by decide +kernel
theorem d_MD_field_273 : decode M_MD_field.2.1 273 = .ok (.aload_n 0, 1) := by decide +kernel
theorem d_MD_field_274 : decode M_MD_field.2.1 274 = .ok (.iconst 0, 1) := by decide +kernel
theorem d_MD_field_275 : decode M_MD_field.2.1 275 = .ok (.putfield 57, 3) := by decide +kernel
theorem d_MD_field_278 : decode M_MD_field.2.1 278 = .ok (.aload_n 0, 1) := by decide +kernel
theorem d_MD_field_279 : decode M_MD_field.2.1 279 = .ok (.dup, 1) := by decide +kernel
theorem d_MD_field_280 : decode M_MD_field.2.1 280 = .ok (.getfield 123, 3) := by decide +kernel
theorem d_MD_field_283 : decode M_MD_field.2.1 283 = .ok (.iconst 1, 1) := by decide +kernel
theorem d_MD_field_284 : decode M_MD_field.2.1 284 = .ok (.iadd, 1) := by decide +kernel
theorem d_MD_field_285 : decode M_MD_field.2.1 285 = .ok (.putfield 123, 3) := by decide +kernel
theorem d_MD_field_288 : decode M_MD_field.2.1 288 = .ok (.aload_n 0, 1) := by decide +kernel
theorem d_MD_field_289 : decode M_MD_field.2.1 289 = .ok (.getfield 123, 3) := by decide +kernel
theorem d_MD_field_292 : decode M_MD_field.2.1 292 = .ok (.iconst 1, 1) := by decide +kernel
theorem d_MD_field_293 : decode M_MD_field.2.1 293 = .ok (.isub, 1) := by decide +kernel
theorem d_MD_field_294 : decode M_MD_field.2.1 294 = .ok (.ireturn, 1) := by decide +kernel
theorem d_MD_writeOut_0 : decode M_MD_writeOut.2.1 0 = .ok (.aload_n 0, 1) := by decide +kernel
theorem d_MD_writeOut_1 : decode M_MD_writeOut.2.1 1 = .ok (.iconst 0, 1) := by decide +kernel
theorem d_MD_writeOut_2 : decode M_MD_writeOut.2.1 2 = .ok (.putfield 71, 3) := by decide +kernel
theorem d_MD_writeOut_5 : decode M_MD_writeOut.2.1 5 = .ok (.iconst 0, 1) := by decide +kernel
theorem d_MD_writeOut_6 : decode M_MD_writeOut.2.1 6 = .ok (.istore_n 1, 1) := by decide +kernel
theorem d_MD_writeOut_7 : decode M_MD_writeOut.2.1 7 = .ok (.iload_n 1, 1) := by decide +kernel
theorem d_MD_writeOut_8 : decode M_MD_writeOut.2.1 8 = .ok (.aload_n 0, 1) := by decide +kernel
theorem d_MD_writeOut_9 : decode M_MD_writeOut.2.1 9 = .ok (.getfield 57, 3) := by decide +kernel
theorem d_MD_writeOut_12 : decode M_MD_writeOut.2.1 12 = .ok (.if_icmp .ge 212, 3) := by decide +kernel
theorem d_MD_writeOut_15 : decode M_MD_writeOut.2.1 15 = .ok (.aload_n 0, 1) := by decide +kernel
theorem d_MD_writeOut_16 : decode M_MD_writeOut.2.1 16 = .ok (.getfield 13, 3) := by decide +kernel
theorem d_MD_writeOut_19 : decode M_MD_writeOut.2.1 19 = .ok (.iload_n 1, 1) := by decide +kernel
theorem d_MD_writeOut_20 : decode M_MD_writeOut.2.1 20 = .ok (.iaload, 1) := by decide +kernel
theorem d_MD_writeOut_21 : decode M_MD_writeOut.2.1 21 = .ok (.istore_n 2, 1) := by decide +kernel
theorem d_MD_writeOut_22 : decode M_MD_writeOut.2.1 22 = .ok (.iconst 1, 1) := by decide +kernel
theorem d_MD_writeOut_23 : decode M_MD_writeOut.2.1 23 = .ok (.istore_n 3, 1) := by decide +kernel
theorem d_MD_writeOut_24 : decode M_MD_writeOut.2.1 24 = .ok (.iinc 1 1, 3) := by decide +kernel
theorem d_MD_writeOut_27 : decode M_MD_writeOut.2.1 27 = .ok (.iload_n 2, 1) := by decide +kernel
theorem d_MD_writeOut_28 : decode M_MD_writeOut.2.1 28 = .ok (.invokestatic 74, 3) := by decide +kernel
theorem d_MD_writeOut_31 : decode M_MD_writeOut.2.1 31 = .ok (.ifCond .eq 126, 3) := by decide +kernel
theorem d_MD_writeOut_34 : decode M_MD_writeOut.2.1 34 = .ok (.aload_n 0, 1) := by decide +kernel
theorem d_MD_writeOut_35 : decode M_MD_writeOut.2.1 35 = .ok (.iload_n 1, 1) := by decide +kernel
theorem d_MD_writeOut_36 : decode M_MD_writeOut.2.1 36 = .ok (.invokevirtual 77, 3) := by decide +kernel
theorem d_MD_writeOut_39 : decode M_MD_writeOut.2.1 39 = .ok (.bipush 40, 2) := by decide +kernel
theorem d_MD_writeOut_41 : decode M_MD_writeOut.2.1 41 = .ok (.if_icmp .ne 116, 3) := by decide +kernel
theorem d_MD_writeOut_44 : decode M_MD_writeOut.2.1 44 = .ok (.aload_n 0, 1) := by decide +kernel
theorem d_MD_writeOut_45 : decode M_MD_writeOut.2.1 45 = .ok (.iload_n 1, 1) := by decide +kernel
theorem d_MD_writeOut_46 : decode M_MD_writeOut.2.1 46 = .ok (.iconst 1, 1) := by decide +kernel
theorem d_MD_writeOut_47 : decode M_MD_writeOut.2.1 47 = .ok (.iadd, 1) := by decide +kernel
theorem d_MD_writeOut_48 : decode M_MD_writeOut.2.1 48 = .ok (.invokevirtual 77, 3) := by decide +kernel
theorem d_MD_writeOut_51 : decode M_MD_writeOut.2.1 51 = .ok (.invokestatic 81, 3) := by decide +kernel
theorem d_MD_writeOut_54 : decode M_MD_writeOut.2.1 54 = .ok (.ifCond .eq 24, 3) := by decide +kernel
theorem d_MD_writeOut_57 : decode M_MD_writeOut.2.1 57 = .ok (.aload_n 0, 1) := by decide +kernel
theorem d_MD_writeOut_58 : decode M_MD_writeOut.2.1 58 = .ok (.iload_n 1, 1) := by decide +kernel
theorem d_MD_writeOut_59 : decode M_MD_writeOut.2.1 59 = .ok (.iconst 2, 1) := by decide +kernel
theorem d_MD_writeOut_60 : decode M_MD_writeOut.2.1 60 = .ok (.iadd, 1) := by decide +kernel
theorem d_MD_writeOut_61 : decode M_MD_writeOut.2.1 61 = .ok (.invokevirtual 77, 3) := by decide +kernel
theorem d_MD_writeOut_64 : decode M_MD_writeOut.2.1 64 = .ok (.invokestatic 81, 3) := by decide +kernel
theorem d_MD_writeOut_67 : decode M_MD_writeOut.2.1 67 = .ok (.ifCond .eq 7, 3) := by decide +kernel
theorem d_MD_writeOut_70 : decode M_MD_writeOut.2.1 70 = .ok (.iconst 2, 1) := by decide +kernel
theorem d_MD_writeOut_71 : decode M_MD_writeOut.2.1 71 = .ok (.goto 8, 3) := by decide +kernel
theorem d_MD_writeOut_74 : decode M_MD_writeOut.2.1 74 = .ok (.iconst 1, 1) := by decide +kernel
theorem d_MD_writeOut_75 : decode M_MD_writeOut.2.1 75 = .ok (.goto 4, 3) := by decide +kernel
theorem d_MD_writeOut_78 : decode M_MD_writeOut.2.1 78 = .ok (.iconst 0, 1) := by decide +kernel
theorem d_MD_writeOut_79 : decode M_MD_writeOut.2.1 79 = .ok (.istore 4, 2) := by decide +kernel
theorem d_MD_writeOut_81 : decode M_MD_writeOut.2.1 81 = .ok (.iload 4, 2) := by decide +kernel
theorem d_MD_writeOut_83 : decode M_MD_writeOut.2.1 83 = .ok (.ifCond .eq 18, 3) := by decide +kernel
theorem d_MD_writeOut_86 : decode M_MD_writeOut.2.1 86 = .ok (.aload_n 0, 1) := by decide +kernel
theorem d_MD_writeOut_87 : decode M_MD_writeOut.2.1 87 = .ok (.iload_n 1, 1) := by decide +kernel
theorem d_MD_writeOut_88 : decode M_MD_writeOut.2.1 88 = .ok (.iconst 1, 1) := by decide +kernel
theorem d_MD_writeOut_89 : decode M_MD_writeOut.2.1 89 = .ok (.iadd, 1) := by decide +kernel
theorem d_MD_writeOut_90 : decode M_MD_writeOut.2.1 90 = .ok (.iload 4, 2) := by decide +kernel
theorem d_MD_writeOut_92 : decode M_MD_writeOut.2.1 92 = .ok (.iadd, 1) := by decide +kernel
theorem d_MD_writeOut_93 : decode M_MD_writeOut.2.1 93 = .ok (.invokevirtual 77, 3) := by decide +kernel
theorem d_MD_writeOut_96 : decode M_MD_writeOut.2.1 96 = .ok (.bipush 41, 2) := by decide +kernel
theorem d_MD_writeOut_98 : decode M_MD_writeOut.2.1 98 = .ok (.if_icmp .eq 5, 3) := by decide +kernel
theorem d_MD_writeOut_101 : decode M_MD_writeOut.2.1 101 = .ok (.iconst 0, 1) := by decide +kernel
theorem d_MD_writeOut_102 : decode M_MD_writeOut.2.1 102 = .ok (.ireturn, 1) := by decide +kernel
theorem d_MD_writeOut_103 : decode M_MD_writeOut.2.1 103 = .ok (.iload 4, 2) := by decide +kernel
theorem d_MD_writeOut_105 : decode M_MD_writeOut.2.1 105 = .ok (.iconst 1, 1) := by decide +kernel
theorem d_MD_writeOut_106 : decode M_MD_writeOut.2.1 106 = .ok (.if_icmp .ne 17, 3) := by decide +kernel
theorem d_MD_writeOut_109 : decode M_MD_writeOut.2.1 109 = .ok (.aload_n 0, 1) := by decide +kernel
theorem d_MD_writeOut_110 : decode M_MD_writeOut.2.1 110 = .ok (.getfield 13, 3) := by decide +kernel
