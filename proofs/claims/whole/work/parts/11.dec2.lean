theorem d_PR_shape_5 : decode M_PR_shape.2.1 5 = .ok (.astore_n 2, 1) := by decide +kernel
theorem d_PR_shape_6 : decode M_PR_shape.2.1 6 = .ok (.aload_n 2, 1) := by decide +kernel
theorem d_PR_shape_7 : decode M_PR_shape.2.1 7 = .ok (.ifnonnull 5, 3) := by decide +kernel
theorem d_PR_shape_10 : decode M_PR_shape.2.1 10 = .ok (.iconst (-1), 1) := by decide +kernel
theorem d_PR_shape_11 : decode M_PR_shape.2.1 11 = .ok (.ireturn, 1) := by decide +kernel
theorem d_PR_shape_12 : decode M_PR_shape.2.1 12 = .ok (.aload_n 2, 1) := by decide +kernel
theorem d_PR_shape_13 : decode M_PR_shape.2.1 13 = .ok (.getfield 66, 3) := by decide +kernel
theorem d_PR_shape_16 : decode M_PR_shape.2.1 16 = .ok (.bipush 16, 2) := by decide +kernel
theorem d_PR_shape_18 : decode M_PR_shape.2.1 18 = .ok (.aload_n 2, 1) := by decide +kernel
theorem d_PR_shape_19 : decode M_PR_shape.2.1 19 = .ok (.getfield 69, 3) := by decide +kernel
theorem d_PR_shape_22 : decode M_PR_shape.2.1 22 = .ok (.imul, 1) := by decide +kernel
theorem d_PR_shape_23 : decode M_PR_shape.2.1 23 = .ok (.iadd, 1) := by decide +kernel
theorem d_PR_shape_24 : decode M_PR_shape.2.1 24 = .ok (.aload_n 2, 1) := by decide +kernel
theorem d_PR_shape_25 : decode M_PR_shape.2.1 25 = .ok (.getfield 72, 3) := by decide +kernel
theorem d_PR_shape_28 : decode M_PR_shape.2.1 28 = .ok (.ifCond .eq 9, 3) := by decide +kernel
theorem d_PR_shape_31 : decode M_PR_shape.2.1 31 = .ok (.sipush 256, 3) := by decide +kernel
theorem d_PR_shape_34 : decode M_PR_shape.2.1 34 = .ok (.goto 4, 3) := by decide +kernel
theorem d_PR_shape_37 : decode M_PR_shape.2.1 37 = .ok (.iconst 0, 1) := by decide +kernel
theorem d_PR_shape_38 : decode M_PR_shape.2.1 38 = .ok (.iadd, 1) := by decide +kernel
theorem d_PR_shape_39 : decode M_PR_shape.2.1 39 = .ok (.aload_n 2, 1) := by decide +kernel
theorem d_PR_shape_40 : decode M_PR_shape.2.1 40 = .ok (.invokevirtual 76, 3) := by decide +kernel
theorem d_PR_shape_43 : decode M_PR_shape.2.1 43 = .ok (.ifCond .eq 9, 3) := by decide +kernel
theorem d_PR_shape_46 : decode M_PR_shape.2.1 46 = .ok (.sipush 512, 3) := by decide +kernel
theorem d_PR_shape_49 : decode M_PR_shape.2.1 49 = .ok (.goto 4, 3) := by decide +kernel
theorem d_PR_shape_52 : decode M_PR_shape.2.1 52 = .ok (.iconst 0, 1) := by decide +kernel
theorem d_PR_shape_53 : decode M_PR_shape.2.1 53 = .ok (.iadd, 1) := by decide +kernel
theorem d_PR_shape_54 : decode M_PR_shape.2.1 54 = .ok (.ireturn, 1) := by decide +kernel
theorem d_FD_isEdited_0 : decode M_FD_isEdited.2.1 0 = .ok (.aload_n 0, 1) := by decide +kernel
theorem d_FD_isEdited_1 : decode M_FD_isEdited.2.1 1 = .ok (.getfield 21, 3) := by decide +kernel
theorem d_FD_isEdited_4 : decode M_FD_isEdited.2.1 4 = .ok (.iconst 4, 1) := by decide +kernel
theorem d_FD_isEdited_5 : decode M_FD_isEdited.2.1 5 = .ok (.if_icmp .ne 7, 3) := by decide +kernel
theorem d_FD_isEdited_8 : decode M_FD_isEdited.2.1 8 = .ok (.iconst 1, 1) := by decide +kernel
theorem d_FD_isEdited_9 : decode M_FD_isEdited.2.1 9 = .ok (.goto 4, 3) := by decide +kernel
theorem d_FD_isEdited_12 : decode M_FD_isEdited.2.1 12 = .ok (.iconst 0, 1) := by decide +kernel
theorem d_FD_isEdited_13 : decode M_FD_isEdited.2.1 13 = .ok (.ireturn, 1) := by decide +kernel
theorem d_PR_peek_0 : decode M_PR_peek.2.1 0 = .ok (.iload_n 1, 1) := by decide +kernel
theorem d_PR_peek_1 : decode M_PR_peek.2.1 1 = .ok (.invokestatic 80, 3) := by decide +kernel
theorem d_PR_peek_4 : decode M_PR_peek.2.1 4 = .ok (.ifCond .eq 15, 3) := by decide +kernel
theorem d_PR_peek_7 : decode M_PR_peek.2.1 7 = .ok (.aload_n 0, 1) := by decide +kernel
theorem d_PR_peek_8 : decode M_PR_peek.2.1 8 = .ok (.getfield 29, 3) := by decide +kernel
theorem d_PR_peek_11 : decode M_PR_peek.2.1 11 = .ok (.getfield 83, 3) := by decide +kernel
theorem d_PR_peek_14 : decode M_PR_peek.2.1 14 = .ok (.iload_n 1, 1) := by decide +kernel
theorem d_PR_peek_15 : decode M_PR_peek.2.1 15 = .ok (.iaload, 1) := by decide +kernel
theorem d_PR_peek_16 : decode M_PR_peek.2.1 16 = .ok (.goto 4, 3) := by decide +kernel
theorem d_PR_peek_19 : decode M_PR_peek.2.1 19 = .ok (.iconst (-1), 1) := by decide +kernel
theorem d_PR_peek_20 : decode M_PR_peek.2.1 20 = .ok (.ireturn, 1) := by decide +kernel
theorem d_PR_isPlace_0 : decode M_PR_isPlace.2.1 0 = .ok (.iload_n 0, 1) := by decide +kernel
theorem d_PR_isPlace_1 : decode M_PR_isPlace.2.1 1 = .ok (.ifCond .lt 13, 3) := by decide +kernel
theorem d_PR_isPlace_4 : decode M_PR_isPlace.2.1 4 = .ok (.iload_n 0, 1) := by decide +kernel
theorem d_PR_isPlace_5 : decode M_PR_isPlace.2.1 5 = .ok (.bipush 64, 2) := by decide +kernel
theorem d_PR_isPlace_7 : decode M_PR_isPlace.2.1 7 = .ok (.if_icmp .ge 7, 3) := by decide +kernel
theorem d_PR_isPlace_10 : decode M_PR_isPlace.2.1 10 = .ok (.iconst 1, 1) := by decide +kernel
theorem d_PR_isPlace_11 : decode M_PR_isPlace.2.1 11 = .ok (.goto 4, 3) := by decide +kernel
theorem d_PR_isPlace_14 : decode M_PR_isPlace.2.1 14 = .ok (.iconst 0, 1) := by decide +kernel
theorem d_PR_isPlace_15 : decode M_PR_isPlace.2.1 15 = .ok (.ireturn, 1) := by decide +kernel
theorem d_PR_poke_0 : decode M_PR_poke.2.1 0 = .ok (.iload_n 1, 1) := by decide +kernel
theorem d_PR_poke_1 : decode M_PR_poke.2.1 1 = .ok (.invokestatic 80, 3) := by decide +kernel
theorem d_PR_poke_4 : decode M_PR_poke.2.1 4 = .ok (.ifCond .eq 14, 3) := by decide +kernel
theorem d_PR_poke_7 : decode M_PR_poke.2.1 7 = .ok (.iload_n 2, 1) := by decide +kernel
theorem d_PR_poke_8 : decode M_PR_poke.2.1 8 = .ok (.ifCond .lt 10, 3) := by decide +kernel
theorem d_PR_poke_11 : decode M_PR_poke.2.1 11 = .ok (.iload_n 2, 1) := by decide +kernel
theorem d_PR_poke_12 : decode M_PR_poke.2.1 12 = .ok (.sipush 255, 3) := by decide +kernel
theorem d_PR_poke_15 : decode M_PR_poke.2.1 15 = .ok (.if_icmp .le 5, 3) := by decide +kernel
theorem d_PR_poke_18 : decode M_PR_poke.2.1 18 = .ok (.iconst 0, 1) := by decide +kernel
theorem d_PR_poke_19 : decode M_PR_poke.2.1 19 = .ok (.ireturn, 1) := by decide +kernel
theorem d_PR_poke_20 : decode M_PR_poke.2.1 20 = .ok (.aload_n 0, 1) := by decide +kernel
theorem d_PR_poke_21 : decode M_PR_poke.2.1 21 = .ok (.getfield 29, 3) := by decide +kernel
theorem d_PR_poke_24 : decode M_PR_poke.2.1 24 = .ok (.getfield 83, 3) := by decide +kernel
theorem d_PR_poke_27 : decode M_PR_poke.2.1 27 = .ok (.iload_n 1, 1) := by decide +kernel
theorem d_PR_poke_28 : decode M_PR_poke.2.1 28 = .ok (.iload_n 2, 1) := by decide +kernel
theorem d_PR_poke_29 : decode M_PR_poke.2.1 29 = .ok (.iastore, 1) := by decide +kernel
theorem d_PR_poke_30 : decode M_PR_poke.2.1 30 = .ok (.iconst 1, 1) := by decide +kernel
theorem d_PR_poke_31 : decode M_PR_poke.2.1 31 = .ok (.ireturn, 1) := by decide +kernel
theorem d_PR_value_0 : decode M_PR_value.2.1 0 = .ok (.aload_n 0, 1) := by decide +kernel
theorem d_PR_value_1 : decode M_PR_value.2.1 1 = .ok (.iload_n 1, 1) := by decide +kernel
theorem d_PR_value_2 : decode M_PR_value.2.1 2 = .ok (.invokevirtual 59, 3) := by decide +kernel
theorem d_PR_value_5 : decode M_PR_value.2.1 5 = .ok (.astore_n 2, 1) := by decide +kernel
theorem d_PR_value_6 : decode M_PR_value.2.1 6 = .ok (.aload_n 2, 1) := by decide +kernel
theorem d_PR_value_7 : decode M_PR_value.2.1 7 = .ok (.ifnonnull 9, 3) := by decide +kernel
theorem d_PR_value_10 : decode M_PR_value.2.1 10 = .ok (.ldc2_w 87, 3) := by decide +kernel
theorem d_PR_value_13 : decode M_PR_value.2.1 13 = .ok (.goto 11, 3) := by decide +kernel
theorem d_PR_value_16 : decode M_PR_value.2.1 16 = .ok (.aload_n 0, 1) := by decide +kernel
theorem d_PR_value_17 : decode M_PR_value.2.1 17 = .ok (.getfield 29, 3) := by decide +kernel
theorem d_PR_value_20 : decode M_PR_value.2.1 20 = .ok (.aload_n 2, 1) := by decide +kernel
theorem d_PR_value_21 : decode M_PR_value.2.1 21 = .ok (.invokevirtual 89, 3) := by decide +kernel
theorem d_PR_value_24 : decode M_PR_value.2.1 24 = .ok (.lreturn, 1) := by decide +kernel
theorem d_SG_unitsOf_0 : decode M_SG_unitsOf.2.1 0 = .ok (.aload_n 1, 1) := by decide +kernel
theorem d_SG_unitsOf_1 : decode M_SG_unitsOf.2.1 1 = .ok (.getfield 22, 3) := by decide +kernel
theorem d_SG_unitsOf_4 : decode M_SG_unitsOf.2.1 4 = .ok (.tableswitch 56 1 4 #[32, 38, 44, 50], 32) := by decide +kernel
theorem d_SG_unitsOf_36 : decode M_SG_unitsOf.2.1 36 = .ok (.aload_n 0, 1) := by decide +kernel
theorem d_SG_unitsOf_37 : decode M_SG_unitsOf.2.1 37 = .ok (.aload_n 1, 1) := by decide +kernel
theorem d_SG_unitsOf_38 : decode M_SG_unitsOf.2.1 38 = .ok (.invokevirtual 28, 3) := by decide +kernel
theorem d_SG_unitsOf_41 : decode M_SG_unitsOf.2.1 41 = .ok (.lreturn, 1) := by decide +kernel
theorem d_SG_unitsOf_42 : decode M_SG_unitsOf.2.1 42 = .ok (.aload_n 0, 1) := by decide +kernel
theorem d_SG_unitsOf_43 : decode M_SG_unitsOf.2.1 43 = .ok (.aload_n 1, 1) := by decide +kernel
theorem d_SG_unitsOf_44 : decode M_SG_unitsOf.2.1 44 = .ok (.invokevirtual 32, 3) := by decide +kernel
theorem d_SG_unitsOf_47 : decode M_SG_unitsOf.2.1 47 = .ok (.lreturn, 1) := by decide +kernel
theorem d_SG_unitsOf_48 : decode M_SG_unitsOf.2.1 48 = .ok (.aload_n 0, 1) := by decide +kernel
theorem d_SG_unitsOf_49 : decode M_SG_unitsOf.2.1 49 = .ok (.aload_n 1, 1) := by decide +kernel
theorem d_SG_unitsOf_50 : decode M_SG_unitsOf.2.1 50 = .ok (.invokevirtual 35, 3) := by decide +kernel
theorem d_SG_unitsOf_53 : decode M_SG_unitsOf.2.1 53 = .ok (.lreturn, 1) := by decide +kernel
theorem d_SG_unitsOf_54 : decode M_SG_unitsOf.2.1 54 = .ok (.aload_n 0, 1) := by decide +kernel
theorem d_SG_unitsOf_55 : decode M_SG_unitsOf.2.1 55 = .ok (.aload_n 1, 1) := by decide +kernel
theorem d_SG_unitsOf_56 : decode M_SG_unitsOf.2.1 56 = .ok (.invokevirtual 38, 3) := by decide +kernel
theorem d_SG_unitsOf_59 : decode M_SG_unitsOf.2.1 59 = .ok (.lreturn, 1) := by decide +kernel
theorem d_SG_unitsOf_60 : decode M_SG_unitsOf.2.1 60 = .ok (.aload_n 0, 1) := by decide +kernel
theorem d_SG_unitsOf_61 : decode M_SG_unitsOf.2.1 61 = .ok (.aload_n 1, 1) := by decide +kernel
theorem d_SG_unitsOf_62 : decode M_SG_unitsOf.2.1 62 = .ok (.invokevirtual 41, 3) := by decide +kernel
theorem d_SG_unitsOf_65 : decode M_SG_unitsOf.2.1 65 = .ok (.lreturn, 1) := by decide +kernel
theorem d_SG_packedUnits_0 : decode M_SG_packedUnits.2.1 0 = .ok (.iconst 2, 1) := by decide +kernel
theorem d_SG_packedUnits_1 : decode M_SG_packedUnits.2.1 1 = .ok (.aload_n 1, 1) := by decide +kernel
theorem d_SG_packedUnits_2 : decode M_SG_packedUnits.2.1 2 = .ok (.getfield 89, 3) := by decide +kernel
theorem d_SG_packedUnits_5 : decode M_SG_packedUnits.2.1 5 = .ok (.imul, 1) := by decide +kernel
theorem d_SG_packedUnits_6 : decode M_SG_packedUnits.2.1 6 = .ok (.iconst 1, 1) := by decide +kernel
theorem d_SG_packedUnits_7 : decode M_SG_packedUnits.2.1 7 = .ok (.isub, 1) := by decide +kernel
theorem d_SG_packedUnits_8 : decode M_SG_packedUnits.2.1 8 = .ok (.istore_n 2, 1) := by decide +kernel
theorem d_SG_packedUnits_9 : decode M_SG_packedUnits.2.1 9 = .ok (.lconst 0, 1) := by decide +kernel
theorem d_SG_packedUnits_10 : decode M_SG_packedUnits.2.1 10 = .ok (.lstore_n 3, 1) := by decide +kernel
theorem d_SG_packedUnits_11 : decode M_SG_packedUnits.2.1 11 = .ok (.iconst 0, 1) := by decide +kernel
theorem d_SG_packedUnits_12 : decode M_SG_packedUnits.2.1 12 = .ok (.istore 5, 2) := by decide +kernel
theorem d_SG_packedUnits_14 : decode M_SG_packedUnits.2.1 14 = .ok (.iload 5, 2) := by decide +kernel
theorem d_SG_packedUnits_16 : decode M_SG_packedUnits.2.1 16 = .ok (.iload_n 2, 1) := by decide +kernel
theorem d_SG_packedUnits_17 : decode M_SG_packedUnits.2.1 17 = .ok (.if_icmp .ge 43, 3) := by decide +kernel
theorem d_SG_packedUnits_20 : decode M_SG_packedUnits.2.1 20 = .ok (.aload_n 0, 1) := by decide +kernel
theorem d_SG_packedUnits_21 : decode M_SG_packedUnits.2.1 21 = .ok (.aload_n 1, 1) := by decide +kernel
theorem d_SG_packedUnits_22 : decode M_SG_packedUnits.2.1 22 = .ok (.getfield 61, 3) := by decide +kernel
theorem d_SG_packedUnits_25 : decode M_SG_packedUnits.2.1 25 = .ok (.iload 5, 2) := by decide +kernel
theorem d_SG_packedUnits_27 : decode M_SG_packedUnits.2.1 27 = .ok (.invokevirtual 92, 3) := by decide +kernel
theorem d_SG_packedUnits_30 : decode M_SG_packedUnits.2.1 30 = .ok (.istore 6, 2) := by decide +kernel
theorem d_SG_packedUnits_32 : decode M_SG_packedUnits.2.1 32 = .ok (.iload 6, 2) := by decide +kernel
theorem d_SG_packedUnits_34 : decode M_SG_packedUnits.2.1 34 = .ok (.invokestatic 73, 3) := by decide +kernel
theorem d_SG_packedUnits_37 : decode M_SG_packedUnits.2.1 37 = .ok (.ifCond .ne 7, 3) := by decide +kernel
theorem d_SG_packedUnits_40 : decode M_SG_packedUnits.2.1 40 = .ok (.ldc2_w 81, 3) := by decide +kernel
theorem d_SG_packedUnits_43 : decode M_SG_packedUnits.2.1 43 = .ok (.lreturn, 1) := by decide +kernel
theorem d_SG_packedUnits_44 : decode M_SG_packedUnits.2.1 44 = .ok (.ldc2_w 83, 3) := by decide +kernel
theorem d_SG_packedUnits_47 : decode M_SG_packedUnits.2.1 47 = .ok (.lload_n 3, 1) := by decide +kernel
theorem d_SG_packedUnits_48 : decode M_SG_packedUnits.2.1 48 = .ok (.lmul, 1) := by decide +kernel
theorem d_SG_packedUnits_49 : decode M_SG_packedUnits.2.1 49 = .ok (.iload 6, 2) := by decide +kernel
theorem d_SG_packedUnits_51 : decode M_SG_packedUnits.2.1 51 = .ok (.i2l, 1) := by decide +kernel
theorem d_SG_packedUnits_52 : decode M_SG_packedUnits.2.1 52 = .ok (.ladd, 1) := by decide +kernel
theorem d_SG_packedUnits_53 : decode M_SG_packedUnits.2.1 53 = .ok (.lstore_n 3, 1) := by decide +kernel
theorem d_SG_packedUnits_54 : decode M_SG_packedUnits.2.1 54 = .ok (.iinc 5 1, 3) := by decide +kernel
theorem d_SG_packedUnits_57 : decode M_SG_packedUnits.2.1 57 = .ok (.goto (-43), 3) := by decide +kernel
theorem d_SG_packedUnits_60 : decode M_SG_packedUnits.2.1 60 = .ok (.aload_n 0, 1) := by decide +kernel
theorem d_SG_packedUnits_61 : decode M_SG_packedUnits.2.1 61 = .ok (.aload_n 1, 1) := by decide +kernel
theorem d_SG_packedUnits_62 : decode M_SG_packedUnits.2.1 62 = .ok (.getfield 61, 3) := by decide +kernel
theorem d_SG_packedUnits_65 : decode M_SG_packedUnits.2.1 65 = .ok (.iload_n 2, 1) := by decide +kernel
theorem d_SG_packedUnits_66 : decode M_SG_packedUnits.2.1 66 = .ok (.invokevirtual 92, 3) := by decide +kernel
theorem d_SG_packedUnits_69 : decode M_SG_packedUnits.2.1 69 = .ok (.istore 5, 2) := by decide +kernel
theorem d_SG_packedUnits_71 : decode M_SG_packedUnits.2.1 71 = .ok (.aload_n 1, 1) := by decide +kernel
theorem d_SG_packedUnits_72 : decode M_SG_packedUnits.2.1 72 = .ok (.getfield 44, 3) := by decide +kernel
theorem d_SG_packedUnits_75 : decode M_SG_packedUnits.2.1 75 = .ok (.ifCond .eq 8, 3) := by decide +kernel
theorem d_SG_packedUnits_78 : decode M_SG_packedUnits.2.1 78 = .ok (.bipush 10, 2) := by decide +kernel
theorem d_SG_packedUnits_80 : decode M_SG_packedUnits.2.1 80 = .ok (.goto 5, 3) := by decide +kernel
theorem d_SG_packedUnits_83 : decode M_SG_packedUnits.2.1 83 = .ok (.bipush 15, 2) := by decide +kernel
theorem d_SG_packedUnits_85 : decode M_SG_packedUnits.2.1 85 = .ok (.istore 6, 2) := by decide +kernel
theorem d_SG_packedUnits_87 : decode M_SG_packedUnits.2.1 87 = .ok (.iload 5, 2) := by decide +kernel
theorem d_SG_packedUnits_89 : decode M_SG_packedUnits.2.1 89 = .ok (.iload 6, 2) := by decide +kernel
theorem d_SG_packedUnits_91 : decode M_SG_packedUnits.2.1 91 = .ok (.if_icmp .lt 15, 3) := by decide +kernel
theorem d_SG_packedUnits_94 : decode M_SG_packedUnits.2.1 94 = .ok (.lload_n 3, 1) := by decide +kernel
theorem d_SG_packedUnits_95 : decode M_SG_packedUnits.2.1 95 = .ok (.aload_n 1, 1) := by decide +kernel
theorem d_SG_packedUnits_96 : decode M_SG_packedUnits.2.1 96 = .ok (.getfield 64, 3) := by decide +kernel
theorem d_SG_packedUnits_99 : decode M_SG_packedUnits.2.1 99 = .ok (.invokestatic 96, 3) := by decide +kernel
theorem d_SG_packedUnits_102 : decode M_SG_packedUnits.2.1 102 = .ok (.lcmp, 1) := by decide +kernel
theorem d_SG_packedUnits_103 : decode M_SG_packedUnits.2.1 103 = .ok (.ifCond .lt 7, 3) := by decide +kernel
theorem d_SG_packedUnits_106 : decode M_SG_packedUnits.2.1 106 = .ok (.ldc2_w 81, 3) := by decide +kernel
theorem d_SG_packedUnits_109 : decode M_SG_packedUnits.2.1 109 = .ok (.lreturn, 1) := by decide +kernel
theorem d_SG_packedUnits_110 : decode M_SG_packedUnits.2.1 110 = .ok (.lload_n 3, 1) := by decide +kernel
theorem d_SG_packedUnits_111 : decode M_SG_packedUnits.2.1 111 = .ok (.iload 5, 2) := by decide +kernel
theorem d_SG_packedUnits_113 : decode M_SG_packedUnits.2.1 113 = .ok (.bipush 13, 2) := by decide +kernel
theorem d_SG_packedUnits_115 : decode M_SG_packedUnits.2.1 115 = .ok (.if_icmp .eq 10, 3) := by decide +kernel
theorem d_SG_packedUnits_118 : decode M_SG_packedUnits.2.1 118 = .ok (.iload 5, 2) := by decide +kernel
theorem d_SG_packedUnits_120 : decode M_SG_packedUnits.2.1 120 = .ok (.bipush 11, 2) := by decide +kernel
theorem d_SG_packedUnits_122 : decode M_SG_packedUnits.2.1 122 = .ok (.if_icmp .ne 7, 3) := by decide +kernel
theorem d_SG_packedUnits_125 : decode M_SG_packedUnits.2.1 125 = .ok (.iconst 1, 1) := by decide +kernel
theorem d_SG_packedUnits_126 : decode M_SG_packedUnits.2.1 126 = .ok (.goto 4, 3) := by decide +kernel
theorem d_SG_packedUnits_129 : decode M_SG_packedUnits.2.1 129 = .ok (.iconst 0, 1) := by decide +kernel
theorem d_SG_packedUnits_130 : decode M_SG_packedUnits.2.1 130 = .ok (.invokestatic 85, 3) := by decide +kernel
theorem d_SG_packedUnits_133 : decode M_SG_packedUnits.2.1 133 = .ok (.lreturn, 1) := by decide +kernel
theorem d_SG_halfAt_0 : decode M_SG_halfAt.2.1 0 = .ok (.aload_n 0, 1) := by decide +kernel
theorem d_SG_halfAt_1 : decode M_SG_halfAt.2.1 1 = .ok (.getfield 9, 3) := by decide +kernel
theorem d_SG_halfAt_4 : decode M_SG_halfAt.2.1 4 = .ok (.iload_n 1, 1) := by decide +kernel
theorem d_SG_halfAt_5 : decode M_SG_halfAt.2.1 5 = .ok (.iload_n 2, 1) := by decide +kernel
theorem d_SG_halfAt_6 : decode M_SG_halfAt.2.1 6 = .ok (.iconst 2, 1) := by decide +kernel
theorem d_SG_halfAt_7 : decode M_SG_halfAt.2.1 7 = .ok (.idiv, 1) := by decide +kernel
theorem d_SG_halfAt_8 : decode M_SG_halfAt.2.1 8 = .ok (.iadd, 1) := by decide +kernel
theorem d_SG_halfAt_9 : decode M_SG_halfAt.2.1 9 = .ok (.iaload, 1) := by decide +kernel
theorem d_SG_halfAt_10 : decode M_SG_halfAt.2.1 10 = .ok (.istore_n 3, 1) := by decide +kernel
theorem d_SG_halfAt_11 : decode M_SG_halfAt.2.1 11 = .ok (.iload_n 2, 1) := by decide +kernel
theorem d_SG_halfAt_12 : decode M_SG_halfAt.2.1 12 = .ok (.iconst 2, 1) := by decide +kernel
theorem d_SG_halfAt_13 : decode M_SG_halfAt.2.1 13 = .ok (.irem, 1) := by decide +kernel
theorem d_SG_halfAt_14 : decode M_SG_halfAt.2.1 14 = .ok (.ifCond .ne 10, 3) := by decide +kernel
theorem d_SG_halfAt_17 : decode M_SG_halfAt.2.1 17 = .ok (.iload_n 3, 1) := by decide +kernel
theorem d_SG_halfAt_18 : decode M_SG_halfAt.2.1 18 = .ok (.bipush 16, 2) := by decide +kernel
theorem d_SG_halfAt_20 : decode M_SG_halfAt.2.1 20 = .ok (.idiv, 1) := by decide +kernel
theorem d_SG_halfAt_21 : decode M_SG_halfAt.2.1 21 = .ok (.goto 7, 3) := by decide +kernel
theorem d_SG_halfAt_24 : decode M_SG_halfAt.2.1 24 = .ok (.iload_n 3, 1) := by decide +kernel
theorem d_SG_halfAt_25 : decode M_SG_halfAt.2.1 25 = .ok (.bipush 16, 2) := by decide +kernel
theorem d_SG_halfAt_27 : decode M_SG_halfAt.2.1 27 = .ok (.irem, 1) := by decide +kernel
theorem d_SG_halfAt_28 : decode M_SG_halfAt.2.1 28 = .ok (.ireturn, 1) := by decide +kernel
theorem d_SG_isDigit_0 : decode M_SG_isDigit.2.1 0 = .ok (.iload_n 0, 1) := by decide +kernel
theorem d_SG_isDigit_1 : decode M_SG_isDigit.2.1 1 = .ok (.ifCond .lt 13, 3) := by decide +kernel
theorem d_SG_isDigit_4 : decode M_SG_isDigit.2.1 4 = .ok (.iload_n 0, 1) := by decide +kernel
theorem d_SG_isDigit_5 : decode M_SG_isDigit.2.1 5 = .ok (.bipush 9, 2) := by decide +kernel
theorem d_SG_isDigit_7 : decode M_SG_isDigit.2.1 7 = .ok (.if_icmp .gt 7, 3) := by decide +kernel
theorem d_SG_isDigit_10 : decode M_SG_isDigit.2.1 10 = .ok (.iconst 1, 1) := by decide +kernel
theorem d_SG_isDigit_11 : decode M_SG_isDigit.2.1 11 = .ok (.goto 4, 3) := by decide +kernel
theorem d_SG_isDigit_14 : decode M_SG_isDigit.2.1 14 = .ok (.iconst 0, 1) := by decide +kernel
theorem d_SG_isDigit_15 : decode M_SG_isDigit.2.1 15 = .ok (.ireturn, 1) := by decide +kernel
theorem d_DC_tenTo_0 : decode M_DC_tenTo.2.1 0 = .ok (.iload_n 0, 1) := by decide +kernel
theorem d_DC_tenTo_1 : decode M_DC_tenTo.2.1 1 = .ok (.ifCond .lt 19, 3) := by decide +kernel
theorem d_DC_tenTo_4 : decode M_DC_tenTo.2.1 4 = .ok (.iload_n 0, 1) := by decide +kernel
theorem d_DC_tenTo_5 : decode M_DC_tenTo.2.1 5 = .ok (.getstatic 9, 3) := by decide +kernel
theorem d_DC_tenTo_8 : decode M_DC_tenTo.2.1 8 = .ok (.arraylength, 1) := by decide +kernel
theorem d_DC_tenTo_9 : decode M_DC_tenTo.2.1 9 = .ok (.if_icmp .ge 11, 3) := by decide +kernel
theorem d_DC_tenTo_12 : decode M_DC_tenTo.2.1 12 = .ok (.getstatic 9, 3) := by decide +kernel
theorem d_DC_tenTo_15 : decode M_DC_tenTo.2.1 15 = .ok (.iload_n 0, 1) := by decide +kernel
theorem d_DC_tenTo_16 : decode M_DC_tenTo.2.1 16 = .ok (.laload, 1) := by decide +kernel
theorem d_DC_tenTo_17 : decode M_DC_tenTo.2.1 17 = .ok (.goto 4, 3) := by decide +kernel
theorem d_DC_tenTo_20 : decode M_DC_tenTo.2.1 20 = .ok (.lconst 1, 1) := by decide +kernel
theorem d_DC_tenTo_21 : decode M_DC_tenTo.2.1 21 = .ok (.lreturn, 1) := by decide +kernel
theorem d_SG_withSign_0 : decode M_SG_withSign.2.1 0 = .ok (.iload_n 2, 1) := by decide +kernel
theorem d_SG_withSign_1 : decode M_SG_withSign.2.1 1 = .ok (.ifCond .eq 8, 3) := by decide +kernel
theorem d_SG_withSign_4 : decode M_SG_withSign.2.1 4 = .ok (.lload_n 0, 1) := by decide +kernel
theorem d_SG_withSign_5 : decode M_SG_withSign.2.1 5 = .ok (.lneg, 1) := by decide +kernel
theorem d_SG_withSign_6 : decode M_SG_withSign.2.1 6 = .ok (.goto 4, 3) := by decide +kernel
theorem d_SG_withSign_9 : decode M_SG_withSign.2.1 9 = .ok (.lload_n 0, 1) := by decide +kernel
theorem d_SG_withSign_10 : decode M_SG_withSign.2.1 10 = .ok (.lreturn, 1) := by decide +kernel
theorem d_SG_separateUnits_0 : decode M_SG_separateUnits.2.1 0 = .ok (.aload_n 0, 1) := by decide +kernel
theorem d_SG_separateUnits_1 : decode M_SG_separateUnits.2.1 1 = .ok (.getfield 9, 3) := by decide +kernel
theorem d_SG_separateUnits_4 : decode M_SG_separateUnits.2.1 4 = .ok (.aload_n 1, 1) := by decide +kernel
theorem d_SG_separateUnits_5 : decode M_SG_separateUnits.2.1 5 = .ok (.getfield 61, 3) := by decide +kernel
theorem d_SG_separateUnits_8 : decode M_SG_separateUnits.2.1 8 = .ok (.aload_n 1, 1) := by decide +kernel
theorem d_SG_separateUnits_9 : decode M_SG_separateUnits.2.1 9 = .ok (.getfield 64, 3) := by decide +kernel
theorem d_SG_separateUnits_12 : decode M_SG_separateUnits.2.1 12 = .ok (.iadd, 1) := by decide +kernel
theorem d_SG_separateUnits_13 : decode M_SG_separateUnits.2.1 13 = .ok (.iaload, 1) := by decide +kernel
theorem d_SG_separateUnits_14 : decode M_SG_separateUnits.2.1 14 = .ok (.istore_n 2, 1) := by decide +kernel
theorem d_SG_separateUnits_15 : decode M_SG_separateUnits.2.1 15 = .ok (.aload_n 0, 1) := by decide +kernel
theorem d_SG_separateUnits_16 : decode M_SG_separateUnits.2.1 16 = .ok (.aload_n 1, 1) := by decide +kernel
theorem d_SG_separateUnits_17 : decode M_SG_separateUnits.2.1 17 = .ok (.getfield 61, 3) := by decide +kernel
theorem d_SG_separateUnits_20 : decode M_SG_separateUnits.2.1 20 = .ok (.aload_n 1, 1) := by decide +kernel
theorem d_SG_separateUnits_21 : decode M_SG_separateUnits.2.1 21 = .ok (.getfield 64, 3) := by decide +kernel
theorem d_SG_separateUnits_24 : decode M_SG_separateUnits.2.1 24 = .ok (.invokevirtual 77, 3) := by decide +kernel
theorem d_SG_separateUnits_27 : decode M_SG_separateUnits.2.1 27 = .ok (.lstore_n 3, 1) := by decide +kernel
theorem d_SG_separateUnits_28 : decode M_SG_separateUnits.2.1 28 = .ok (.lload_n 3, 1) := by decide +kernel
theorem d_SG_separateUnits_29 : decode M_SG_separateUnits.2.1 29 = .ok (.ldc2_w 81, 3) := by decide +kernel
theorem d_SG_separateUnits_32 : decode M_SG_separateUnits.2.1 32 = .ok (.lcmp, 1) := by decide +kernel
theorem d_SG_separateUnits_33 : decode M_SG_separateUnits.2.1 33 = .ok (.ifCond .eq 15, 3) := by decide +kernel
theorem d_SG_separateUnits_36 : decode M_SG_separateUnits.2.1 36 = .ok (.iload_n 2, 1) := by decide +kernel
theorem d_SG_separateUnits_37 : decode M_SG_separateUnits.2.1 37 = .ok (.bipush 43, 2) := by decide +kernel
theorem d_SG_separateUnits_39 : decode M_SG_separateUnits.2.1 39 = .ok (.if_icmp .eq 13, 3) := by decide +kernel
theorem d_SG_separateUnits_42 : decode M_SG_separateUnits.2.1 42 = .ok (.iload_n 2, 1) := by decide +kernel
theorem d_SG_separateUnits_43 : decode M_SG_separateUnits.2.1 43 = .ok (.bipush 45, 2) := by decide +kernel
theorem d_SG_separateUnits_45 : decode M_SG_separateUnits.2.1 45 = .ok (.if_icmp .eq 7, 3) := by decide +kernel
theorem d_SG_separateUnits_48 : decode M_SG_separateUnits.2.1 48 = .ok (.ldc2_w 81, 3) := by decide +kernel
theorem d_SG_separateUnits_51 : decode M_SG_separateUnits.2.1 51 = .ok (.lreturn, 1) := by decide +kernel
theorem d_SG_separateUnits_52 : decode M_SG_separateUnits.2.1 52 = .ok (.lload_n 3, 1) := by decide +kernel
theorem d_SG_separateUnits_53 : decode M_SG_separateUnits.2.1 53 = .ok (.iload_n 2, 1) := by decide +kernel
theorem d_SG_separateUnits_54 : decode M_SG_separateUnits.2.1 54 = .ok (.bipush 45, 2) := by decide +kernel
theorem d_SG_separateUnits_56 : decode M_SG_separateUnits.2.1 56 = .ok (.if_icmp .ne 7, 3) := by decide +kernel
theorem d_SG_separateUnits_59 : decode M_SG_separateUnits.2.1 59 = .ok (.iconst 1, 1) := by decide +kernel
theorem d_SG_separateUnits_60 : decode M_SG_separateUnits.2.1 60 = .ok (.goto 4, 3) := by decide +kernel
theorem d_SG_separateUnits_63 : decode M_SG_separateUnits.2.1 63 = .ok (.iconst 0, 1) := by decide +kernel
theorem d_SG_separateUnits_64 : decode M_SG_separateUnits.2.1 64 = .ok (.invokestatic 85, 3) := by decide +kernel
theorem d_SG_separateUnits_67 : decode M_SG_separateUnits.2.1 67 = .ok (.lreturn, 1) := by decide +kernel
theorem d_SG_digitsAt_0 : decode M_SG_digitsAt.2.1 0 = .ok (.lconst 0, 1) := by decide +kernel
theorem d_SG_digitsAt_1 : decode M_SG_digitsAt.2.1 1 = .ok (.lstore_n 3, 1) := by decide +kernel
theorem d_SG_digitsAt_2 : decode M_SG_digitsAt.2.1 2 = .ok (.iload_n 1, 1) := by decide +kernel
theorem d_SG_digitsAt_3 : decode M_SG_digitsAt.2.1 3 = .ok (.istore 5, 2) := by decide +kernel
theorem d_SG_digitsAt_5 : decode M_SG_digitsAt.2.1 5 = .ok (.iload 5, 2) := by decide +kernel
theorem d_SG_digitsAt_7 : decode M_SG_digitsAt.2.1 7 = .ok (.iload_n 1, 1) := by decide +kernel
theorem d_SG_digitsAt_8 : decode M_SG_digitsAt.2.1 8 = .ok (.iload_n 2, 1) := by decide +kernel
theorem d_SG_digitsAt_9 : decode M_SG_digitsAt.2.1 9 = .ok (.iadd, 1) := by decide +kernel
theorem d_SG_digitsAt_10 : decode M_SG_digitsAt.2.1 10 = .ok (.if_icmp .ge 43, 3) := by decide +kernel
theorem d_SG_digitsAt_13 : decode M_SG_digitsAt.2.1 13 = .ok (.aload_n 0, 1) := by decide +kernel
theorem d_SG_digitsAt_14 : decode M_SG_digitsAt.2.1 14 = .ok (.getfield 9, 3) := by decide +kernel
theorem d_SG_digitsAt_17 : decode M_SG_digitsAt.2.1 17 = .ok (.iload 5, 2) := by decide +kernel
theorem d_SG_digitsAt_19 : decode M_SG_digitsAt.2.1 19 = .ok (.iaload, 1) := by decide +kernel
theorem d_SG_digitsAt_20 : decode M_SG_digitsAt.2.1 20 = .ok (.bipush 48, 2) := by decide +kernel
theorem d_SG_digitsAt_22 : decode M_SG_digitsAt.2.1 22 = .ok (.isub, 1) := by decide +kernel
theorem d_SG_digitsAt_23 : decode M_SG_digitsAt.2.1 23 = .ok (.istore 6, 2) := by decide +kernel
theorem d_SG_digitsAt_25 : decode M_SG_digitsAt.2.1 25 = .ok (.iload 6, 2) := by decide +kernel
theorem d_SG_digitsAt_27 : decode M_SG_digitsAt.2.1 27 = .ok (.invokestatic 73, 3) := by decide +kernel
theorem d_SG_digitsAt_30 : decode M_SG_digitsAt.2.1 30 = .ok (.ifCond .ne 7, 3) := by decide +kernel
theorem d_SG_digitsAt_33 : decode M_SG_digitsAt.2.1 33 = .ok (.ldc2_w 81, 3) := by decide +kernel
theorem d_SG_digitsAt_36 : decode M_SG_digitsAt.2.1 36 = .ok (.lreturn, 1) := by decide +kernel
theorem d_SG_digitsAt_37 : decode M_SG_digitsAt.2.1 37 = .ok (.ldc2_w 83, 3) := by decide +kernel
theorem d_SG_digitsAt_40 : decode M_SG_digitsAt.2.1 40 = .ok (.lload_n 3, 1) := by decide +kernel
theorem d_SG_digitsAt_41 : decode M_SG_digitsAt.2.1 41 = .ok (.lmul, 1) := by decide +kernel
theorem d_SG_digitsAt_42 : decode M_SG_digitsAt.2.1 42 = .ok (.iload 6, 2) := by decide +kernel
theorem d_SG_digitsAt_44 : decode M_SG_digitsAt.2.1 44 = .ok (.i2l, 1) := by decide +kernel
theorem d_SG_digitsAt_45 : decode M_SG_digitsAt.2.1 45 = .ok (.ladd, 1) := by decide +kernel
theorem d_SG_digitsAt_46 : decode M_SG_digitsAt.2.1 46 = .ok (.lstore_n 3, 1) := by decide +kernel
theorem d_SG_digitsAt_47 : decode M_SG_digitsAt.2.1 47 = .ok (.iinc 5 1, 3) := by decide +kernel
theorem d_SG_digitsAt_50 : decode M_SG_digitsAt.2.1 50 = .ok (.goto (-45), 3) := by decide +kernel
theorem d_SG_digitsAt_53 : decode M_SG_digitsAt.2.1 53 = .ok (.lload_n 3, 1) := by decide +kernel
theorem d_SG_digitsAt_54 : decode M_SG_digitsAt.2.1 54 = .ok (.lreturn, 1) := by decide +kernel
theorem d_SG_binaryUnits_0 : decode M_SG_binaryUnits.2.1 0 = .ok (.lconst 0, 1) := by decide +kernel
theorem d_SG_binaryUnits_1 : decode M_SG_binaryUnits.2.1 1 = .ok (.lstore_n 2, 1) := by decide +kernel
theorem d_SG_binaryUnits_2 : decode M_SG_binaryUnits.2.1 2 = .ok (.aload_n 1, 1) := by decide +kernel
theorem d_SG_binaryUnits_3 : decode M_SG_binaryUnits.2.1 3 = .ok (.getfield 61, 3) := by decide +kernel
theorem d_SG_binaryUnits_6 : decode M_SG_binaryUnits.2.1 6 = .ok (.istore 4, 2) := by decide +kernel
theorem d_SG_binaryUnits_8 : decode M_SG_binaryUnits.2.1 8 = .ok (.iload 4, 2) := by decide +kernel
theorem d_SG_binaryUnits_10 : decode M_SG_binaryUnits.2.1 10 = .ok (.aload_n 1, 1) := by decide +kernel
theorem d_SG_binaryUnits_11 : decode M_SG_binaryUnits.2.1 11 = .ok (.getfield 61, 3) := by decide +kernel
theorem d_SG_binaryUnits_14 : decode M_SG_binaryUnits.2.1 14 = .ok (.aload_n 1, 1) := by decide +kernel
theorem d_SG_binaryUnits_15 : decode M_SG_binaryUnits.2.1 15 = .ok (.getfield 89, 3) := by decide +kernel
theorem d_SG_binaryUnits_18 : decode M_SG_binaryUnits.2.1 18 = .ok (.iadd, 1) := by decide +kernel
theorem d_SG_binaryUnits_19 : decode M_SG_binaryUnits.2.1 19 = .ok (.if_icmp .ge 24, 3) := by decide +kernel
theorem d_SG_binaryUnits_22 : decode M_SG_binaryUnits.2.1 22 = .ok (.ldc2_w 104, 3) := by decide +kernel
theorem d_SG_binaryUnits_25 : decode M_SG_binaryUnits.2.1 25 = .ok (.lload_n 2, 1) := by decide +kernel
theorem d_SG_binaryUnits_26 : decode M_SG_binaryUnits.2.1 26 = .ok (.lmul, 1) := by decide +kernel
theorem d_SG_binaryUnits_27 : decode M_SG_binaryUnits.2.1 27 = .ok (.aload_n 0, 1) := by decide +kernel
theorem d_SG_binaryUnits_28 : decode M_SG_binaryUnits.2.1 28 = .ok (.getfield 9, 3) := by decide +kernel
theorem d_SG_binaryUnits_31 : decode M_SG_binaryUnits.2.1 31 = .ok (.iload 4, 2) := by decide +kernel
theorem d_SG_binaryUnits_33 : decode M_SG_binaryUnits.2.1 33 = .ok (.iaload, 1) := by decide +kernel
theorem d_SG_binaryUnits_34 : decode M_SG_binaryUnits.2.1 34 = .ok (.i2l, 1) := by decide +kernel
theorem d_SG_binaryUnits_35 : decode M_SG_binaryUnits.2.1 35 = .ok (.ladd, 1) := by decide +kernel
theorem d_SG_binaryUnits_36 : decode M_SG_binaryUnits.2.1 36 = .ok (.lstore_n 2, 1) := by decide +kernel
theorem d_SG_binaryUnits_37 : decode M_SG_binaryUnits.2.1 37 = .ok (.iinc 4 1, 3) := by decide +kernel
theorem d_SG_binaryUnits_40 : decode M_SG_binaryUnits.2.1 40 = .ok (.goto (-32), 3) := by decide +kernel
theorem d_SG_binaryUnits_43 : decode M_SG_binaryUnits.2.1 43 = .ok (.aload_n 1, 1) := by decide +kernel
theorem d_SG_binaryUnits_44 : decode M_SG_binaryUnits.2.1 44 = .ok (.getfield 44, 3) := by decide +kernel
theorem d_SG_binaryUnits_47 : decode M_SG_binaryUnits.2.1 47 = .ok (.ifCond .eq 30, 3) := by decide +kernel
theorem d_SG_binaryUnits_50 : decode M_SG_binaryUnits.2.1 50 = .ok (.aload_n 0, 1) := by decide +kernel
theorem d_SG_binaryUnits_51 : decode M_SG_binaryUnits.2.1 51 = .ok (.getfield 9, 3) := by decide +kernel
theorem d_SG_binaryUnits_54 : decode M_SG_binaryUnits.2.1 54 = .ok (.aload_n 1, 1) := by decide +kernel
theorem d_SG_binaryUnits_55 : decode M_SG_binaryUnits.2.1 55 = .ok (.getfield 61, 3) := by decide +kernel
theorem d_SG_binaryUnits_58 : decode M_SG_binaryUnits.2.1 58 = .ok (.iaload, 1) := by decide +kernel
theorem d_SG_binaryUnits_59 : decode M_SG_binaryUnits.2.1 59 = .ok (.sipush 128, 3) := by decide +kernel
theorem d_SG_binaryUnits_62 : decode M_SG_binaryUnits.2.1 62 = .ok (.if_icmp .lt 15, 3) := by decide +kernel
theorem d_SG_binaryUnits_65 : decode M_SG_binaryUnits.2.1 65 = .ok (.lload_n 2, 1) := by decide +kernel
theorem d_SG_binaryUnits_66 : decode M_SG_binaryUnits.2.1 66 = .ok (.lconst 1, 1) := by decide +kernel
theorem d_SG_binaryUnits_67 : decode M_SG_binaryUnits.2.1 67 = .ok (.bipush 8, 2) := by decide +kernel
theorem d_SG_binaryUnits_69 : decode M_SG_binaryUnits.2.1 69 = .ok (.aload_n 1, 1) := by decide +kernel
theorem d_SG_binaryUnits_70 : decode M_SG_binaryUnits.2.1 70 = .ok (.getfield 89, 3) := by decide +kernel
theorem d_SG_binaryUnits_73 : decode M_SG_binaryUnits.2.1 73 = .ok (.imul, 1) := by decide +kernel
theorem d_SG_binaryUnits_74 : decode M_SG_binaryUnits.2.1 74 = .ok (.lshl, 1) := by decide +kernel
theorem d_SG_binaryUnits_75 : decode M_SG_binaryUnits.2.1 75 = .ok (.lsub, 1) := by decide +kernel
theorem d_SG_binaryUnits_76 : decode M_SG_binaryUnits.2.1 76 = .ok (.lstore_n 2, 1) := by decide +kernel
theorem d_SG_binaryUnits_77 : decode M_SG_binaryUnits.2.1 77 = .ok (.lload_n 2, 1) := by decide +kernel
theorem d_SG_binaryUnits_78 : decode M_SG_binaryUnits.2.1 78 = .ok (.invokestatic 48, 3) := by decide +kernel
theorem d_SG_binaryUnits_81 : decode M_SG_binaryUnits.2.1 81 = .ok (.aload_n 1, 1) := by decide +kernel
theorem d_SG_binaryUnits_82 : decode M_SG_binaryUnits.2.1 82 = .ok (.getfield 64, 3) := by decide +kernel
theorem d_SG_binaryUnits_85 : decode M_SG_binaryUnits.2.1 85 = .ok (.invokestatic 96, 3) := by decide +kernel
theorem d_SG_binaryUnits_88 : decode M_SG_binaryUnits.2.1 88 = .ok (.lcmp, 1) := by decide +kernel
theorem d_SG_binaryUnits_89 : decode M_SG_binaryUnits.2.1 89 = .ok (.ifCond .ge 7, 3) := by decide +kernel
theorem d_SG_binaryUnits_92 : decode M_SG_binaryUnits.2.1 92 = .ok (.lload_n 2, 1) := by decide +kernel
theorem d_SG_binaryUnits_93 : decode M_SG_binaryUnits.2.1 93 = .ok (.goto 6, 3) := by decide +kernel
theorem d_SG_binaryUnits_96 : decode M_SG_binaryUnits.2.1 96 = .ok (.ldc2_w 81, 3) := by decide +kernel
theorem d_SG_binaryUnits_99 : decode M_SG_binaryUnits.2.1 99 = .ok (.lreturn, 1) := by decide +kernel
theorem d_MA_abs_0 : decode M_MA_abs.2.1 0 = .ok (.lload_n 0, 1) := by decide +kernel
theorem d_MA_abs_1 : decode M_MA_abs.2.1 1 = .ok (.lconst 0, 1) := by decide +kernel
theorem d_MA_abs_2 : decode M_MA_abs.2.1 2 = .ok (.lcmp, 1) := by decide +kernel
theorem d_MA_abs_3 : decode M_MA_abs.2.1 3 = .ok (.ifCond .ge 8, 3) := by decide +kernel
theorem d_MA_abs_6 : decode M_MA_abs.2.1 6 = .ok (.lload_n 0, 1) := by decide +kernel
theorem d_MA_abs_7 : decode M_MA_abs.2.1 7 = .ok (.lneg, 1) := by decide +kernel
theorem d_MA_abs_8 : decode M_MA_abs.2.1 8 = .ok (.goto 4, 3) := by decide +kernel
theorem d_MA_abs_11 : decode M_MA_abs.2.1 11 = .ok (.lload_n 0, 1) := by decide +kernel
theorem d_MA_abs_12 : decode M_MA_abs.2.1 12 = .ok (.lreturn, 1) := by decide +kernel
theorem d_SG_editedUnits_0 : decode M_SG_editedUnits.2.1 0 = .ok (.lconst 0, 1) := by decide +kernel
theorem d_SG_editedUnits_1 : decode M_SG_editedUnits.2.1 1 = .ok (.lstore_n 2, 1) := by decide +kernel
theorem d_SG_editedUnits_2 : decode M_SG_editedUnits.2.1 2 = .ok (.aload_n 1, 1) := by decide +kernel
theorem d_SG_editedUnits_3 : decode M_SG_editedUnits.2.1 3 = .ok (.getfield 108, 3) := by decide +kernel
theorem d_SG_editedUnits_6 : decode M_SG_editedUnits.2.1 6 = .ok (.getfield 112, 3) := by decide +kernel
theorem d_SG_editedUnits_9 : decode M_SG_editedUnits.2.1 9 = .ok (.istore 4, 2) := by decide +kernel
theorem d_SG_editedUnits_11 : decode M_SG_editedUnits.2.1 11 = .ok (.iload 4, 2) := by decide +kernel
theorem d_SG_editedUnits_13 : decode M_SG_editedUnits.2.1 13 = .ok (.aload_n 1, 1) := by decide +kernel
theorem d_SG_editedUnits_14 : decode M_SG_editedUnits.2.1 14 = .ok (.getfield 108, 3) := by decide +kernel
theorem d_SG_editedUnits_17 : decode M_SG_editedUnits.2.1 17 = .ok (.getfield 117, 3) := by decide +kernel
theorem d_SG_editedUnits_20 : decode M_SG_editedUnits.2.1 20 = .ok (.if_icmp .ge 60, 3) := by decide +kernel
theorem d_SG_editedUnits_23 : decode M_SG_editedUnits.2.1 23 = .ok (.aload_n 1, 1) := by decide +kernel
theorem d_SG_editedUnits_24 : decode M_SG_editedUnits.2.1 24 = .ok (.getfield 108, 3) := by decide +kernel
theorem d_SG_editedUnits_27 : decode M_SG_editedUnits.2.1 27 = .ok (.iload 4, 2) := by decide +kernel
theorem d_SG_editedUnits_29 : decode M_SG_editedUnits.2.1 29 = .ok (.invokevirtual 120, 3) := by decide +kernel
theorem d_SG_editedUnits_32 : decode M_SG_editedUnits.2.1 32 = .ok (.ifCond .eq 42, 3) := by decide +kernel
theorem d_SG_editedUnits_35 : decode M_SG_editedUnits.2.1 35 = .ok (.aload_n 0, 1) := by decide +kernel
theorem d_SG_editedUnits_36 : decode M_SG_editedUnits.2.1 36 = .ok (.getfield 9, 3) := by decide +kernel
theorem d_SG_editedUnits_39 : decode M_SG_editedUnits.2.1 39 = .ok (.aload_n 1, 1) := by decide +kernel
theorem d_SG_editedUnits_40 : decode M_SG_editedUnits.2.1 40 = .ok (.getfield 61, 3) := by decide +kernel
theorem d_SG_editedUnits_43 : decode M_SG_editedUnits.2.1 43 = .ok (.iload 4, 2) := by decide +kernel
theorem d_SG_editedUnits_45 : decode M_SG_editedUnits.2.1 45 = .ok (.iadd, 1) := by decide +kernel
theorem d_SG_editedUnits_46 : decode M_SG_editedUnits.2.1 46 = .ok (.iaload, 1) := by decide +kernel
theorem d_SG_editedUnits_47 : decode M_SG_editedUnits.2.1 47 = .ok (.bipush 48, 2) := by decide +kernel
theorem d_SG_editedUnits_49 : decode M_SG_editedUnits.2.1 49 = .ok (.isub, 1) := by decide +kernel
theorem d_SG_editedUnits_50 : decode M_SG_editedUnits.2.1 50 = .ok (.istore 5, 2) := by decide +kernel
theorem d_SG_editedUnits_52 : decode M_SG_editedUnits.2.1 52 = .ok (.ldc2_w 83, 3) := by decide +kernel
theorem d_SG_editedUnits_55 : decode M_SG_editedUnits.2.1 55 = .ok (.lload_n 2, 1) := by decide +kernel
theorem d_SG_editedUnits_56 : decode M_SG_editedUnits.2.1 56 = .ok (.lmul, 1) := by decide +kernel
theorem d_SG_editedUnits_57 : decode M_SG_editedUnits.2.1 57 = .ok (.iload 5, 2) := by decide +kernel
theorem d_SG_editedUnits_59 : decode M_SG_editedUnits.2.1 59 = .ok (.invokestatic 73, 3) := by decide +kernel
theorem d_SG_editedUnits_62 : decode M_SG_editedUnits.2.1 62 = .ok (.ifCond .eq 8, 3) := by decide +kernel
theorem d_SG_editedUnits_65 : decode M_SG_editedUnits.2.1 65 = .ok (.iload 5, 2) := by decide +kernel
theorem d_SG_editedUnits_67 : decode M_SG_editedUnits.2.1 67 = .ok (.goto 4, 3) := by decide +kernel
theorem d_SG_editedUnits_70 : decode M_SG_editedUnits.2.1 70 = .ok (.iconst 0, 1) := by decide +kernel
theorem d_SG_editedUnits_71 : decode M_SG_editedUnits.2.1 71 = .ok (.i2l, 1) := by decide +kernel
theorem d_SG_editedUnits_72 : decode M_SG_editedUnits.2.1 72 = .ok (.ladd, 1) := by decide +kernel
theorem d_SG_editedUnits_73 : decode M_SG_editedUnits.2.1 73 = .ok (.lstore_n 2, 1) := by decide +kernel
theorem d_SG_editedUnits_74 : decode M_SG_editedUnits.2.1 74 = .ok (.iinc 4 1, 3) := by decide +kernel
theorem d_SG_editedUnits_77 : decode M_SG_editedUnits.2.1 77 = .ok (.goto (-66), 3) := by decide +kernel
theorem d_SG_editedUnits_80 : decode M_SG_editedUnits.2.1 80 = .ok (.aload_n 0, 1) := by decide +kernel
theorem d_SG_editedUnits_81 : decode M_SG_editedUnits.2.1 81 = .ok (.getfield 18, 3) := by decide +kernel
theorem d_SG_editedUnits_84 : decode M_SG_editedUnits.2.1 84 = .ok (.aload_n 1, 1) := by decide +kernel
theorem d_SG_editedUnits_85 : decode M_SG_editedUnits.2.1 85 = .ok (.getfield 108, 3) := by decide +kernel
theorem d_SG_editedUnits_88 : decode M_SG_editedUnits.2.1 88 = .ok (.lload_n 2, 1) := by decide +kernel
theorem d_SG_editedUnits_89 : decode M_SG_editedUnits.2.1 89 = .ok (.invokevirtual 123, 3) := by decide +kernel
theorem d_SG_editedUnits_92 : decode M_SG_editedUnits.2.1 92 = .ok (.aload_n 0, 1) := by decide +kernel
theorem d_SG_editedUnits_93 : decode M_SG_editedUnits.2.1 93 = .ok (.aload_n 1, 1) := by decide +kernel
theorem d_SG_editedUnits_94 : decode M_SG_editedUnits.2.1 94 = .ok (.invokevirtual 127, 3) := by decide +kernel
theorem d_SG_editedUnits_97 : decode M_SG_editedUnits.2.1 97 = .ok (.ifCond .eq 5, 3) := by decide +kernel
theorem d_SG_editedUnits_100 : decode M_SG_editedUnits.2.1 100 = .ok (.lload_n 2, 1) := by decide +kernel
theorem d_SG_editedUnits_101 : decode M_SG_editedUnits.2.1 101 = .ok (.lreturn, 1) := by decide +kernel
theorem d_SG_editedUnits_102 : decode M_SG_editedUnits.2.1 102 = .ok (.aload_n 1, 1) := by decide +kernel
theorem d_SG_editedUnits_103 : decode M_SG_editedUnits.2.1 103 = .ok (.getfield 44, 3) := by decide +kernel
theorem d_SG_editedUnits_106 : decode M_SG_editedUnits.2.1 106 = .ok (.ifCond .ne 7, 3) := by decide +kernel
theorem d_SG_editedUnits_109 : decode M_SG_editedUnits.2.1 109 = .ok (.ldc2_w 81, 3) := by decide +kernel
theorem d_SG_editedUnits_112 : decode M_SG_editedUnits.2.1 112 = .ok (.lreturn, 1) := by decide +kernel
theorem d_SG_editedUnits_113 : decode M_SG_editedUnits.2.1 113 = .ok (.aload_n 0, 1) := by decide +kernel
theorem d_SG_editedUnits_114 : decode M_SG_editedUnits.2.1 114 = .ok (.getfield 18, 3) := by decide +kernel
theorem d_SG_editedUnits_117 : decode M_SG_editedUnits.2.1 117 = .ok (.aload_n 1, 1) := by decide +kernel
theorem d_SG_editedUnits_118 : decode M_SG_editedUnits.2.1 118 = .ok (.getfield 108, 3) := by decide +kernel
theorem d_SG_editedUnits_121 : decode M_SG_editedUnits.2.1 121 = .ok (.lload_n 2, 1) := by decide +kernel
theorem d_SG_editedUnits_122 : decode M_SG_editedUnits.2.1 122 = .ok (.lneg, 1) := by decide +kernel
theorem d_SG_editedUnits_123 : decode M_SG_editedUnits.2.1 123 = .ok (.invokevirtual 123, 3) := by decide +kernel
theorem d_SG_editedUnits_126 : decode M_SG_editedUnits.2.1 126 = .ok (.aload_n 0, 1) := by decide +kernel
theorem d_SG_editedUnits_127 : decode M_SG_editedUnits.2.1 127 = .ok (.aload_n 1, 1) := by decide +kernel
theorem d_SG_editedUnits_128 : decode M_SG_editedUnits.2.1 128 = .ok (.invokevirtual 127, 3) := by decide +kernel
theorem d_SG_editedUnits_131 : decode M_SG_editedUnits.2.1 131 = .ok (.ifCond .eq 8, 3) := by decide +kernel
theorem d_SG_editedUnits_134 : decode M_SG_editedUnits.2.1 134 = .ok (.lload_n 2, 1) := by decide +kernel
theorem d_SG_editedUnits_135 : decode M_SG_editedUnits.2.1 135 = .ok (.lneg, 1) := by decide +kernel
theorem d_SG_editedUnits_136 : decode M_SG_editedUnits.2.1 136 = .ok (.goto 6, 3) := by decide +kernel
theorem d_SG_editedUnits_139 : decode M_SG_editedUnits.2.1 139 = .ok (.ldc2_w 81, 3) := by decide +kernel
theorem d_SG_editedUnits_142 : decode M_SG_editedUnits.2.1 142 = .ok (.lreturn, 1) := by decide +kernel
theorem d_PC_isDigitPlace_0 : decode M_PC_isDigitPlace.2.1 0 = .ok (.aload_n 0, 1) := by decide +kernel
theorem d_PC_isDigitPlace_1 : decode M_PC_isDigitPlace.2.1 1 = .ok (.getfield 9, 3) := by decide +kernel
theorem d_PC_isDigitPlace_4 : decode M_PC_isDigitPlace.2.1 4 = .ok (.iload_n 1, 1) := by decide +kernel
theorem d_PC_isDigitPlace_5 : decode M_PC_isDigitPlace.2.1 5 = .ok (.caload, 1) := by decide +kernel
theorem d_PC_isDigitPlace_6 : decode M_PC_isDigitPlace.2.1 6 = .ok (.istore_n 2, 1) := by decide +kernel
theorem d_PC_isDigitPlace_7 : decode M_PC_isDigitPlace.2.1 7 = .ok (.iload_n 2, 1) := by decide +kernel
theorem d_PC_isDigitPlace_8 : decode M_PC_isDigitPlace.2.1 8 = .ok (.bipush 57, 2) := by decide +kernel
theorem d_PC_isDigitPlace_10 : decode M_PC_isDigitPlace.2.1 10 = .ok (.if_icmp .eq 26, 3) := by decide +kernel
theorem d_PC_isDigitPlace_13 : decode M_PC_isDigitPlace.2.1 13 = .ok (.iload_n 2, 1) := by decide +kernel
theorem d_PC_isDigitPlace_14 : decode M_PC_isDigitPlace.2.1 14 = .ok (.aload_n 0, 1) := by decide +kernel
theorem d_PC_isDigitPlace_15 : decode M_PC_isDigitPlace.2.1 15 = .ok (.getfield 15, 3) := by decide +kernel
theorem d_PC_isDigitPlace_18 : decode M_PC_isDigitPlace.2.1 18 = .ok (.if_icmp .ne 22, 3) := by decide +kernel
theorem d_PC_isDigitPlace_21 : decode M_PC_isDigitPlace.2.1 21 = .ok (.aload_n 0, 1) := by decide +kernel
theorem d_PC_isDigitPlace_22 : decode M_PC_isDigitPlace.2.1 22 = .ok (.getfield 103, 3) := by decide +kernel
theorem d_PC_isDigitPlace_25 : decode M_PC_isDigitPlace.2.1 25 = .ok (.ifCond .eq 11, 3) := by decide +kernel
theorem d_PC_isDigitPlace_28 : decode M_PC_isDigitPlace.2.1 28 = .ok (.iload_n 1, 1) := by decide +kernel
theorem d_PC_isDigitPlace_29 : decode M_PC_isDigitPlace.2.1 29 = .ok (.aload_n 0, 1) := by decide +kernel
theorem d_PC_isDigitPlace_30 : decode M_PC_isDigitPlace.2.1 30 = .ok (.getfield 87, 3) := by decide +kernel
theorem d_PC_isDigitPlace_33 : decode M_PC_isDigitPlace.2.1 33 = .ok (.if_icmp .eq 7, 3) := by decide +kernel
theorem d_PC_isDigitPlace_36 : decode M_PC_isDigitPlace.2.1 36 = .ok (.iconst 1, 1) := by decide +kernel
theorem d_PC_isDigitPlace_37 : decode M_PC_isDigitPlace.2.1 37 = .ok (.goto 4, 3) := by decide +kernel
theorem d_PC_isDigitPlace_40 : decode M_PC_isDigitPlace.2.1 40 = .ok (.iconst 0, 1) := by decide +kernel
theorem d_PC_isDigitPlace_41 : decode M_PC_isDigitPlace.2.1 41 = .ok (.ireturn, 1) := by decide +kernel
theorem d_ED_edit_0 : decode M_ED_edit.2.1 0 = .ok (.lload_n 2, 1) := by decide +kernel
theorem d_ED_edit_1 : decode M_ED_edit.2.1 1 = .ok (.lconst 0, 1) := by decide +kernel
theorem d_ED_edit_2 : decode M_ED_edit.2.1 2 = .ok (.lcmp, 1) := by decide +kernel
theorem d_ED_edit_3 : decode M_ED_edit.2.1 3 = .ok (.ifCond .ge 7, 3) := by decide +kernel
theorem d_ED_edit_6 : decode M_ED_edit.2.1 6 = .ok (.iconst 1, 1) := by decide +kernel
theorem d_ED_edit_7 : decode M_ED_edit.2.1 7 = .ok (.goto 4, 3) := by decide +kernel
theorem d_ED_edit_10 : decode M_ED_edit.2.1 10 = .ok (.iconst 0, 1) := by decide +kernel
theorem d_ED_edit_11 : decode M_ED_edit.2.1 11 = .ok (.istore 4, 2) := by decide +kernel
theorem d_ED_edit_13 : decode M_ED_edit.2.1 13 = .ok (.iconst 0, 1) := by decide +kernel
theorem d_ED_edit_14 : decode M_ED_edit.2.1 14 = .ok (.istore 5, 2) := by decide +kernel
theorem d_ED_edit_16 : decode M_ED_edit.2.1 16 = .ok (.iload 5, 2) := by decide +kernel
theorem d_ED_edit_18 : decode M_ED_edit.2.1 18 = .ok (.aload_n 1, 1) := by decide +kernel
theorem d_ED_edit_19 : decode M_ED_edit.2.1 19 = .ok (.getfield 15, 3) := by decide +kernel
theorem d_ED_edit_22 : decode M_ED_edit.2.1 22 = .ok (.if_icmp .ge 28, 3) := by decide +kernel
theorem d_ED_edit_25 : decode M_ED_edit.2.1 25 = .ok (.aload_n 0, 1) := by decide +kernel
theorem d_ED_edit_26 : decode M_ED_edit.2.1 26 = .ok (.getfield 9, 3) := by decide +kernel
theorem d_ED_edit_29 : decode M_ED_edit.2.1 29 = .ok (.iload 5, 2) := by decide +kernel
theorem d_ED_edit_31 : decode M_ED_edit.2.1 31 = .ok (.aload_n 1, 1) := by decide +kernel
theorem d_ED_edit_32 : decode M_ED_edit.2.1 32 = .ok (.getfield 21, 3) := by decide +kernel
theorem d_ED_edit_35 : decode M_ED_edit.2.1 35 = .ok (.iload 5, 2) := by decide +kernel
theorem d_ED_edit_37 : decode M_ED_edit.2.1 37 = .ok (.caload, 1) := by decide +kernel
theorem d_ED_edit_38 : decode M_ED_edit.2.1 38 = .ok (.iload 4, 2) := by decide +kernel
theorem d_ED_edit_40 : decode M_ED_edit.2.1 40 = .ok (.invokestatic 25, 3) := by decide +kernel
theorem d_ED_edit_43 : decode M_ED_edit.2.1 43 = .ok (.iastore, 1) := by decide +kernel
theorem d_ED_edit_44 : decode M_ED_edit.2.1 44 = .ok (.iinc 5 1, 3) := by decide +kernel
theorem d_ED_edit_47 : decode M_ED_edit.2.1 47 = .ok (.goto (-31), 3) := by decide +kernel
theorem d_ED_edit_50 : decode M_ED_edit.2.1 50 = .ok (.aload_n 0, 1) := by decide +kernel
theorem d_ED_edit_51 : decode M_ED_edit.2.1 51 = .ok (.aload_n 1, 1) := by decide +kernel
theorem d_ED_edit_52 : decode M_ED_edit.2.1 52 = .ok (.lload_n 2, 1) := by decide +kernel
theorem d_ED_edit_53 : decode M_ED_edit.2.1 53 = .ok (.invokestatic 29, 3) := by decide +kernel
theorem d_ED_edit_56 : decode M_ED_edit.2.1 56 = .ok (.invokevirtual 35, 3) := by decide +kernel
theorem d_ED_edit_59 : decode M_ED_edit.2.1 59 = .ok (.aload_n 0, 1) := by decide +kernel
theorem d_ED_edit_60 : decode M_ED_edit.2.1 60 = .ok (.aload_n 1, 1) := by decide +kernel
theorem d_ED_edit_61 : decode M_ED_edit.2.1 61 = .ok (.aload_n 0, 1) := by decide +kernel
theorem d_ED_edit_62 : decode M_ED_edit.2.1 62 = .ok (.aload_n 1, 1) := by decide +kernel
theorem d_ED_edit_63 : decode M_ED_edit.2.1 63 = .ok (.invokevirtual 39, 3) := by decide +kernel
theorem d_ED_edit_66 : decode M_ED_edit.2.1 66 = .ok (.iload 4, 2) := by decide +kernel
theorem d_ED_edit_68 : decode M_ED_edit.2.1 68 = .ok (.invokevirtual 43, 3) := by decide +kernel
theorem d_ED_edit_71 : decode M_ED_edit.2.1 71 = .ok (.aload_n 1, 1) := by decide +kernel
theorem d_ED_edit_72 : decode M_ED_edit.2.1 72 = .ok (.getfield 47, 3) := by decide +kernel
theorem d_ED_edit_75 : decode M_ED_edit.2.1 75 = .ok (.istore 5, 2) := by decide +kernel
theorem d_ED_edit_77 : decode M_ED_edit.2.1 77 = .ok (.iload 5, 2) := by decide +kernel
theorem d_ED_edit_79 : decode M_ED_edit.2.1 79 = .ok (.aload_n 1, 1) := by decide +kernel
theorem d_ED_edit_80 : decode M_ED_edit.2.1 80 = .ok (.getfield 50, 3) := by decide +kernel
theorem d_ED_edit_83 : decode M_ED_edit.2.1 83 = .ok (.if_icmp .ge 28, 3) := by decide +kernel
theorem d_ED_edit_86 : decode M_ED_edit.2.1 86 = .ok (.aload_n 0, 1) := by decide +kernel
theorem d_ED_edit_87 : decode M_ED_edit.2.1 87 = .ok (.getfield 9, 3) := by decide +kernel
theorem d_ED_edit_90 : decode M_ED_edit.2.1 90 = .ok (.iload 5, 2) := by decide +kernel
theorem d_ED_edit_92 : decode M_ED_edit.2.1 92 = .ok (.aload_n 1, 1) := by decide +kernel
theorem d_ED_edit_93 : decode M_ED_edit.2.1 93 = .ok (.getfield 21, 3) := by decide +kernel
theorem d_ED_edit_96 : decode M_ED_edit.2.1 96 = .ok (.iload 5, 2) := by decide +kernel
theorem d_ED_edit_98 : decode M_ED_edit.2.1 98 = .ok (.caload, 1) := by decide +kernel
theorem d_ED_edit_99 : decode M_ED_edit.2.1 99 = .ok (.iload 4, 2) := by decide +kernel
theorem d_ED_edit_101 : decode M_ED_edit.2.1 101 = .ok (.invokestatic 25, 3) := by decide +kernel
theorem d_ED_edit_104 : decode M_ED_edit.2.1 104 = .ok (.iastore, 1) := by decide +kernel
theorem d_ED_edit_105 : decode M_ED_edit.2.1 105 = .ok (.iinc 5 1, 3) := by decide +kernel
theorem d_ED_edit_108 : decode M_ED_edit.2.1 108 = .ok (.goto (-31), 3) := by decide +kernel
theorem d_ED_edit_111 : decode M_ED_edit.2.1 111 = .ok (.return_, 1) := by decide +kernel
theorem d_ED_signCharacter_0 : decode M_ED_signCharacter.2.1 0 = .ok (.iload_n 0, 1) := by decide +kernel
theorem d_ED_signCharacter_1 : decode M_ED_signCharacter.2.1 1 = .ok (.bipush 36, 2) := by decide +kernel
theorem d_ED_signCharacter_3 : decode M_ED_signCharacter.2.1 3 = .ok (.if_icmp .ne 6, 3) := by decide +kernel
theorem d_ED_signCharacter_6 : decode M_ED_signCharacter.2.1 6 = .ok (.bipush 36, 2) := by decide +kernel
theorem d_ED_signCharacter_8 : decode M_ED_signCharacter.2.1 8 = .ok (.ireturn, 1) := by decide +kernel
theorem d_ED_signCharacter_9 : decode M_ED_signCharacter.2.1 9 = .ok (.iload_n 0, 1) := by decide +kernel
theorem d_ED_signCharacter_10 : decode M_ED_signCharacter.2.1 10 = .ok (.bipush 43, 2) := by decide +kernel
theorem d_ED_signCharacter_12 : decode M_ED_signCharacter.2.1 12 = .ok (.if_icmp .ne 15, 3) := by decide +kernel
theorem d_ED_signCharacter_15 : decode M_ED_signCharacter.2.1 15 = .ok (.iload_n 1, 1) := by decide +kernel
theorem d_ED_signCharacter_16 : decode M_ED_signCharacter.2.1 16 = .ok (.ifCond .eq 8, 3) := by decide +kernel
theorem d_ED_signCharacter_19 : decode M_ED_signCharacter.2.1 19 = .ok (.bipush 45, 2) := by decide +kernel
theorem d_ED_signCharacter_21 : decode M_ED_signCharacter.2.1 21 = .ok (.goto 5, 3) := by decide +kernel
theorem d_ED_signCharacter_24 : decode M_ED_signCharacter.2.1 24 = .ok (.bipush 43, 2) := by decide +kernel
theorem d_ED_signCharacter_26 : decode M_ED_signCharacter.2.1 26 = .ok (.ireturn, 1) := by decide +kernel
theorem d_ED_signCharacter_27 : decode M_ED_signCharacter.2.1 27 = .ok (.iload_n 1, 1) := by decide +kernel
theorem d_ED_signCharacter_28 : decode M_ED_signCharacter.2.1 28 = .ok (.ifCond .eq 7, 3) := by decide +kernel
theorem d_ED_signCharacter_31 : decode M_ED_signCharacter.2.1 31 = .ok (.iload_n 0, 1) := by decide +kernel
theorem d_ED_signCharacter_32 : decode M_ED_signCharacter.2.1 32 = .ok (.goto 5, 3) := by decide +kernel
theorem d_ED_signCharacter_35 : decode M_ED_signCharacter.2.1 35 = .ok (.bipush 32, 2) := by decide +kernel
theorem d_ED_signCharacter_37 : decode M_ED_signCharacter.2.1 37 = .ok (.ireturn, 1) := by decide +kernel
theorem d_ED_writeBody_0 : decode M_ED_writeBody.2.1 0 = .ok (.lload_n 2, 1) := by decide +kernel
theorem d_ED_writeBody_1 : decode M_ED_writeBody.2.1 1 = .ok (.lstore 4, 2) := by decide +kernel
theorem d_ED_writeBody_3 : decode M_ED_writeBody.2.1 3 = .ok (.aload_n 1, 1) := by decide +kernel
theorem d_ED_writeBody_4 : decode M_ED_writeBody.2.1 4 = .ok (.getfield 47, 3) := by decide +kernel
theorem d_ED_writeBody_7 : decode M_ED_writeBody.2.1 7 = .ok (.iconst 1, 1) := by decide +kernel
theorem d_ED_writeBody_8 : decode M_ED_writeBody.2.1 8 = .ok (.isub, 1) := by decide +kernel
theorem d_ED_writeBody_9 : decode M_ED_writeBody.2.1 9 = .ok (.istore 6, 2) := by decide +kernel
theorem d_ED_writeBody_11 : decode M_ED_writeBody.2.1 11 = .ok (.iload 6, 2) := by decide +kernel
theorem d_ED_writeBody_13 : decode M_ED_writeBody.2.1 13 = .ok (.aload_n 1, 1) := by decide +kernel
theorem d_ED_writeBody_14 : decode M_ED_writeBody.2.1 14 = .ok (.getfield 15, 3) := by decide +kernel
theorem d_ED_writeBody_17 : decode M_ED_writeBody.2.1 17 = .ok (.if_icmp .lt 77, 3) := by decide +kernel
theorem d_ED_writeBody_20 : decode M_ED_writeBody.2.1 20 = .ok (.aload_n 1, 1) := by decide +kernel
theorem d_ED_writeBody_21 : decode M_ED_writeBody.2.1 21 = .ok (.iload 6, 2) := by decide +kernel
theorem d_ED_writeBody_23 : decode M_ED_writeBody.2.1 23 = .ok (.invokevirtual 53, 3) := by decide +kernel
theorem d_ED_writeBody_26 : decode M_ED_writeBody.2.1 26 = .ok (.ifCond .eq 31, 3) := by decide +kernel
theorem d_ED_writeBody_29 : decode M_ED_writeBody.2.1 29 = .ok (.aload_n 0, 1) := by decide +kernel
theorem d_ED_writeBody_30 : decode M_ED_writeBody.2.1 30 = .ok (.getfield 9, 3) := by decide +kernel
theorem d_ED_writeBody_33 : decode M_ED_writeBody.2.1 33 = .ok (.iload 6, 2) := by decide +kernel
theorem d_ED_writeBody_35 : decode M_ED_writeBody.2.1 35 = .ok (.bipush 48, 2) := by decide +kernel
theorem d_ED_writeBody_37 : decode M_ED_writeBody.2.1 37 = .ok (.lload 4, 2) := by decide +kernel
theorem d_ED_writeBody_39 : decode M_ED_writeBody.2.1 39 = .ok (.ldc2_w 57, 3) := by decide +kernel
theorem d_ED_writeBody_42 : decode M_ED_writeBody.2.1 42 = .ok (.lrem, 1) := by decide +kernel
theorem d_ED_writeBody_43 : decode M_ED_writeBody.2.1 43 = .ok (.l2i, 1) := by decide +kernel
theorem d_ED_writeBody_44 : decode M_ED_writeBody.2.1 44 = .ok (.iadd, 1) := by decide +kernel
theorem d_ED_writeBody_45 : decode M_ED_writeBody.2.1 45 = .ok (.iastore, 1) := by decide +kernel
theorem d_ED_writeBody_46 : decode M_ED_writeBody.2.1 46 = .ok (.lload 4, 2) := by decide +kernel
theorem d_ED_writeBody_48 : decode M_ED_writeBody.2.1 48 = .ok (.ldc2_w 57, 3) := by decide +kernel
theorem d_ED_writeBody_51 : decode M_ED_writeBody.2.1 51 = .ok (.ldiv, 1) := by decide +kernel
theorem d_ED_writeBody_52 : decode M_ED_writeBody.2.1 52 = .ok (.lstore 4, 2) := by decide +kernel
theorem d_ED_writeBody_54 : decode M_ED_writeBody.2.1 54 = .ok (.goto 34, 3) := by decide +kernel
theorem d_ED_writeBody_57 : decode M_ED_writeBody.2.1 57 = .ok (.aload_n 0, 1) := by decide +kernel
theorem d_ED_writeBody_58 : decode M_ED_writeBody.2.1 58 = .ok (.getfield 9, 3) := by decide +kernel
theorem d_ED_writeBody_61 : decode M_ED_writeBody.2.1 61 = .ok (.iload 6, 2) := by decide +kernel
theorem d_ED_writeBody_63 : decode M_ED_writeBody.2.1 63 = .ok (.aload_n 1, 1) := by decide +kernel
theorem d_ED_writeBody_64 : decode M_ED_writeBody.2.1 64 = .ok (.getfield 21, 3) := by decide +kernel
theorem d_ED_writeBody_67 : decode M_ED_writeBody.2.1 67 = .ok (.iload 6, 2) := by decide +kernel
theorem d_ED_writeBody_69 : decode M_ED_writeBody.2.1 69 = .ok (.caload, 1) := by decide +kernel
theorem d_ED_writeBody_70 : decode M_ED_writeBody.2.1 70 = .ok (.bipush 66, 2) := by decide +kernel
theorem d_ED_writeBody_72 : decode M_ED_writeBody.2.1 72 = .ok (.if_icmp .ne 8, 3) := by decide +kernel
theorem d_ED_writeBody_75 : decode M_ED_writeBody.2.1 75 = .ok (.bipush 32, 2) := by decide +kernel
theorem d_ED_writeBody_77 : decode M_ED_writeBody.2.1 77 = .ok (.goto 10, 3) := by decide +kernel
theorem d_ED_writeBody_80 : decode M_ED_writeBody.2.1 80 = .ok (.aload_n 1, 1) := by decide +kernel
theorem d_ED_writeBody_81 : decode M_ED_writeBody.2.1 81 = .ok (.getfield 21, 3) := by decide +kernel
theorem d_ED_writeBody_84 : decode M_ED_writeBody.2.1 84 = .ok (.iload 6, 2) := by decide +kernel
theorem d_ED_writeBody_86 : decode M_ED_writeBody.2.1 86 = .ok (.caload, 1) := by decide +kernel
theorem d_ED_writeBody_87 : decode M_ED_writeBody.2.1 87 = .ok (.iastore, 1) := by decide +kernel
theorem d_ED_writeBody_88 : decode M_ED_writeBody.2.1 88 = .ok (.iinc 6 (-1), 3) := by decide +kernel
theorem d_ED_writeBody_91 : decode M_ED_writeBody.2.1 91 = .ok (.goto (-80), 3) := by decide +kernel
theorem d_ED_writeBody_94 : decode M_ED_writeBody.2.1 94 = .ok (.return_, 1) := by decide +kernel
theorem d_ED_firstShown_0 : decode M_ED_firstShown.2.1 0 = .ok (.aload_n 1, 1) := by decide +kernel
theorem d_ED_firstShown_1 : decode M_ED_firstShown.2.1 1 = .ok (.getfield 15, 3) := by decide +kernel
theorem d_ED_firstShown_4 : decode M_ED_firstShown.2.1 4 = .ok (.istore_n 2, 1) := by decide +kernel
theorem d_ED_firstShown_5 : decode M_ED_firstShown.2.1 5 = .ok (.iload_n 2, 1) := by decide +kernel
theorem d_ED_firstShown_6 : decode M_ED_firstShown.2.1 6 = .ok (.aload_n 1, 1) := by decide +kernel
theorem d_ED_firstShown_7 : decode M_ED_firstShown.2.1 7 = .ok (.getfield 47, 3) := by decide +kernel
theorem d_ED_firstShown_10 : decode M_ED_firstShown.2.1 10 = .ok (.if_icmp .ge 49, 3) := by decide +kernel
theorem d_ED_firstShown_13 : decode M_ED_firstShown.2.1 13 = .ok (.aload_n 1, 1) := by decide +kernel
theorem d_ED_firstShown_14 : decode M_ED_firstShown.2.1 14 = .ok (.getfield 21, 3) := by decide +kernel
theorem d_ED_firstShown_17 : decode M_ED_firstShown.2.1 17 = .ok (.iload_n 2, 1) := by decide +kernel
theorem d_ED_firstShown_18 : decode M_ED_firstShown.2.1 18 = .ok (.caload, 1) := by decide +kernel
theorem d_ED_firstShown_19 : decode M_ED_firstShown.2.1 19 = .ok (.istore_n 3, 1) := by decide +kernel
theorem d_ED_firstShown_20 : decode M_ED_firstShown.2.1 20 = .ok (.iload_n 3, 1) := by decide +kernel
theorem d_ED_firstShown_21 : decode M_ED_firstShown.2.1 21 = .ok (.bipush 57, 2) := by decide +kernel
theorem d_ED_firstShown_23 : decode M_ED_firstShown.2.1 23 = .ok (.if_icmp .eq 28, 3) := by decide +kernel
theorem d_ED_firstShown_26 : decode M_ED_firstShown.2.1 26 = .ok (.iload_n 3, 1) := by decide +kernel
theorem d_ED_firstShown_27 : decode M_ED_firstShown.2.1 27 = .ok (.bipush 46, 2) := by decide +kernel
theorem d_ED_firstShown_29 : decode M_ED_firstShown.2.1 29 = .ok (.if_icmp .eq 22, 3) := by decide +kernel
theorem d_ED_firstShown_32 : decode M_ED_firstShown.2.1 32 = .ok (.aload_n 1, 1) := by decide +kernel
theorem d_ED_firstShown_33 : decode M_ED_firstShown.2.1 33 = .ok (.iload_n 2, 1) := by decide +kernel
theorem d_ED_firstShown_34 : decode M_ED_firstShown.2.1 34 = .ok (.invokevirtual 53, 3) := by decide +kernel
theorem d_ED_firstShown_37 : decode M_ED_firstShown.2.1 37 = .ok (.ifCond .eq 16, 3) := by decide +kernel
theorem d_ED_firstShown_40 : decode M_ED_firstShown.2.1 40 = .ok (.aload_n 0, 1) := by decide +kernel
theorem d_ED_firstShown_41 : decode M_ED_firstShown.2.1 41 = .ok (.getfield 9, 3) := by decide +kernel
theorem d_ED_firstShown_44 : decode M_ED_firstShown.2.1 44 = .ok (.iload_n 2, 1) := by decide +kernel
theorem d_ED_firstShown_45 : decode M_ED_firstShown.2.1 45 = .ok (.iaload, 1) := by decide +kernel
theorem d_ED_firstShown_46 : decode M_ED_firstShown.2.1 46 = .ok (.bipush 48, 2) := by decide +kernel
theorem d_ED_firstShown_48 : decode M_ED_firstShown.2.1 48 = .ok (.if_icmp .eq 5, 3) := by decide +kernel
theorem d_ED_firstShown_51 : decode M_ED_firstShown.2.1 51 = .ok (.iload_n 2, 1) := by decide +kernel
theorem d_ED_firstShown_52 : decode M_ED_firstShown.2.1 52 = .ok (.ireturn, 1) := by decide +kernel
theorem d_ED_firstShown_53 : decode M_ED_firstShown.2.1 53 = .ok (.iinc 2 1, 3) := by decide +kernel
theorem d_ED_firstShown_56 : decode M_ED_firstShown.2.1 56 = .ok (.goto (-51), 3) := by decide +kernel
theorem d_ED_firstShown_59 : decode M_ED_firstShown.2.1 59 = .ok (.aload_n 1, 1) := by decide +kernel
theorem d_ED_firstShown_60 : decode M_ED_firstShown.2.1 60 = .ok (.getfield 47, 3) := by decide +kernel
theorem d_ED_firstShown_63 : decode M_ED_firstShown.2.1 63 = .ok (.ireturn, 1) := by decide +kernel
theorem d_ED_suppress_0 : decode M_ED_suppress.2.1 0 = .ok (.aload_n 1, 1) := by decide +kernel
theorem d_ED_suppress_1 : decode M_ED_suppress.2.1 1 = .ok (.getfield 15, 3) := by decide +kernel
theorem d_ED_suppress_4 : decode M_ED_suppress.2.1 4 = .ok (.istore 4, 2) := by decide +kernel
theorem d_ED_suppress_6 : decode M_ED_suppress.2.1 6 = .ok (.iload 4, 2) := by decide +kernel
theorem d_ED_suppress_8 : decode M_ED_suppress.2.1 8 = .ok (.iload_n 2, 1) := by decide +kernel
theorem d_ED_suppress_9 : decode M_ED_suppress.2.1 9 = .ok (.if_icmp .ge 32, 3) := by decide +kernel
theorem d_ED_suppress_12 : decode M_ED_suppress.2.1 12 = .ok (.aload_n 0, 1) := by decide +kernel
theorem d_ED_suppress_13 : decode M_ED_suppress.2.1 13 = .ok (.getfield 9, 3) := by decide +kernel
theorem d_ED_suppress_16 : decode M_ED_suppress.2.1 16 = .ok (.iload 4, 2) := by decide +kernel
theorem d_ED_suppress_18 : decode M_ED_suppress.2.1 18 = .ok (.aload_n 1, 1) := by decide +kernel
theorem d_ED_suppress_19 : decode M_ED_suppress.2.1 19 = .ok (.getfield 59, 3) := by decide +kernel
theorem d_ED_suppress_22 : decode M_ED_suppress.2.1 22 = .ok (.bipush 42, 2) := by decide +kernel
theorem d_ED_suppress_24 : decode M_ED_suppress.2.1 24 = .ok (.if_icmp .ne 8, 3) := by decide +kernel
theorem d_ED_suppress_27 : decode M_ED_suppress.2.1 27 = .ok (.bipush 42, 2) := by decide +kernel
theorem d_ED_suppress_29 : decode M_ED_suppress.2.1 29 = .ok (.goto 5, 3) := by decide +kernel
theorem d_ED_suppress_32 : decode M_ED_suppress.2.1 32 = .ok (.bipush 32, 2) := by decide +kernel
theorem d_ED_suppress_34 : decode M_ED_suppress.2.1 34 = .ok (.iastore, 1) := by decide +kernel
theorem d_ED_suppress_35 : decode M_ED_suppress.2.1 35 = .ok (.iinc 4 1, 3) := by decide +kernel
theorem d_ED_suppress_38 : decode M_ED_suppress.2.1 38 = .ok (.goto (-32), 3) := by decide +kernel
theorem d_ED_suppress_41 : decode M_ED_suppress.2.1 41 = .ok (.aload_n 1, 1) := by decide +kernel
theorem d_ED_suppress_42 : decode M_ED_suppress.2.1 42 = .ok (.getfield 63, 3) := by decide +kernel
theorem d_ED_suppress_45 : decode M_ED_suppress.2.1 45 = .ok (.ifCond .eq 35, 3) := by decide +kernel
theorem d_ED_suppress_48 : decode M_ED_suppress.2.1 48 = .ok (.iload_n 2, 1) := by decide +kernel
theorem d_ED_suppress_49 : decode M_ED_suppress.2.1 49 = .ok (.aload_n 1, 1) := by decide +kernel
theorem d_ED_suppress_50 : decode M_ED_suppress.2.1 50 = .ok (.getfield 15, 3) := by decide +kernel
theorem d_ED_suppress_53 : decode M_ED_suppress.2.1 53 = .ok (.if_icmp .le 27, 3) := by decide +kernel
theorem d_ED_suppress_56 : decode M_ED_suppress.2.1 56 = .ok (.iload_n 2, 1) := by decide +kernel
theorem d_ED_suppress_57 : decode M_ED_suppress.2.1 57 = .ok (.aload_n 1, 1) := by decide +kernel
theorem d_ED_suppress_58 : decode M_ED_suppress.2.1 58 = .ok (.getfield 47, 3) := by decide +kernel
theorem d_ED_suppress_61 : decode M_ED_suppress.2.1 61 = .ok (.if_icmp .ge 19, 3) := by decide +kernel
theorem d_ED_suppress_64 : decode M_ED_suppress.2.1 64 = .ok (.aload_n 0, 1) := by decide +kernel
theorem d_ED_suppress_65 : decode M_ED_suppress.2.1 65 = .ok (.getfield 9, 3) := by decide +kernel
theorem d_ED_suppress_68 : decode M_ED_suppress.2.1 68 = .ok (.iload_n 2, 1) := by decide +kernel
theorem d_ED_suppress_69 : decode M_ED_suppress.2.1 69 = .ok (.iconst 1, 1) := by decide +kernel
theorem d_ED_suppress_70 : decode M_ED_suppress.2.1 70 = .ok (.isub, 1) := by decide +kernel
theorem d_ED_suppress_71 : decode M_ED_suppress.2.1 71 = .ok (.aload_n 1, 1) := by decide +kernel
theorem d_ED_suppress_72 : decode M_ED_suppress.2.1 72 = .ok (.getfield 59, 3) := by decide +kernel
theorem d_ED_suppress_75 : decode M_ED_suppress.2.1 75 = .ok (.iload_n 3, 1) := by decide +kernel
theorem d_ED_suppress_76 : decode M_ED_suppress.2.1 76 = .ok (.invokestatic 25, 3) := by decide +kernel
theorem d_ED_suppress_79 : decode M_ED_suppress.2.1 79 = .ok (.iastore, 1) := by decide +kernel
theorem d_ED_suppress_80 : decode M_ED_suppress.2.1 80 = .ok (.return_, 1) := by decide +kernel
theorem d_SG_holdsText_0 : decode M_SG_holdsText.2.1 0 = .ok (.iconst 0, 1) := by decide +kernel
theorem d_SG_holdsText_1 : decode M_SG_holdsText.2.1 1 = .ok (.istore_n 2, 1) := by decide +kernel
theorem d_SG_holdsText_2 : decode M_SG_holdsText.2.1 2 = .ok (.iload_n 2, 1) := by decide +kernel
theorem d_SG_holdsText_3 : decode M_SG_holdsText.2.1 3 = .ok (.aload_n 1, 1) := by decide +kernel
theorem d_SG_holdsText_4 : decode M_SG_holdsText.2.1 4 = .ok (.getfield 89, 3) := by decide +kernel
theorem d_SG_holdsText_7 : decode M_SG_holdsText.2.1 7 = .ok (.if_icmp .ge 34, 3) := by decide +kernel
theorem d_SG_holdsText_10 : decode M_SG_holdsText.2.1 10 = .ok (.aload_n 0, 1) := by decide +kernel
theorem d_SG_holdsText_11 : decode M_SG_holdsText.2.1 11 = .ok (.getfield 9, 3) := by decide +kernel
theorem d_SG_holdsText_14 : decode M_SG_holdsText.2.1 14 = .ok (.aload_n 1, 1) := by decide +kernel
theorem d_SG_holdsText_15 : decode M_SG_holdsText.2.1 15 = .ok (.getfield 61, 3) := by decide +kernel
theorem d_SG_holdsText_18 : decode M_SG_holdsText.2.1 18 = .ok (.iload_n 2, 1) := by decide +kernel
theorem d_SG_holdsText_19 : decode M_SG_holdsText.2.1 19 = .ok (.iadd, 1) := by decide +kernel
theorem d_SG_holdsText_20 : decode M_SG_holdsText.2.1 20 = .ok (.iaload, 1) := by decide +kernel
theorem d_SG_holdsText_21 : decode M_SG_holdsText.2.1 21 = .ok (.aload_n 0, 1) := by decide +kernel
theorem d_SG_holdsText_22 : decode M_SG_holdsText.2.1 22 = .ok (.getfield 18, 3) := by decide +kernel
theorem d_SG_holdsText_25 : decode M_SG_holdsText.2.1 25 = .ok (.getfield 131, 3) := by decide +kernel
theorem d_SG_holdsText_28 : decode M_SG_holdsText.2.1 28 = .ok (.iload_n 2, 1) := by decide +kernel
theorem d_SG_holdsText_29 : decode M_SG_holdsText.2.1 29 = .ok (.iaload, 1) := by decide +kernel
theorem d_SG_holdsText_30 : decode M_SG_holdsText.2.1 30 = .ok (.if_icmp .eq 5, 3) := by decide +kernel
theorem d_SG_holdsText_33 : decode M_SG_holdsText.2.1 33 = .ok (.iconst 0, 1) := by decide +kernel
theorem d_SG_holdsText_34 : decode M_SG_holdsText.2.1 34 = .ok (.ireturn, 1) := by decide +kernel
theorem d_SG_holdsText_35 : decode M_SG_holdsText.2.1 35 = .ok (.iinc 2 1, 3) := by decide +kernel
theorem d_SG_holdsText_38 : decode M_SG_holdsText.2.1 38 = .ok (.goto (-36), 3) := by decide +kernel
theorem d_SG_holdsText_41 : decode M_SG_holdsText.2.1 41 = .ok (.iconst 1, 1) := by decide +kernel
theorem d_SG_holdsText_42 : decode M_SG_holdsText.2.1 42 = .ok (.ireturn, 1) := by decide +kernel
theorem d_SG_zonedUnits_0 : decode M_SG_zonedUnits.2.1 0 = .ok (.aload_n 0, 1) := by decide +kernel
theorem d_SG_zonedUnits_1 : decode M_SG_zonedUnits.2.1 1 = .ok (.getfield 9, 3) := by decide +kernel
theorem d_SG_zonedUnits_4 : decode M_SG_zonedUnits.2.1 4 = .ok (.aload_n 1, 1) := by decide +kernel
theorem d_SG_zonedUnits_5 : decode M_SG_zonedUnits.2.1 5 = .ok (.getfield 61, 3) := by decide +kernel
theorem d_SG_zonedUnits_8 : decode M_SG_zonedUnits.2.1 8 = .ok (.aload_n 1, 1) := by decide +kernel
theorem d_SG_zonedUnits_9 : decode M_SG_zonedUnits.2.1 9 = .ok (.getfield 64, 3) := by decide +kernel
theorem d_SG_zonedUnits_12 : decode M_SG_zonedUnits.2.1 12 = .ok (.iadd, 1) := by decide +kernel
theorem d_SG_zonedUnits_13 : decode M_SG_zonedUnits.2.1 13 = .ok (.iconst 1, 1) := by decide +kernel
theorem d_SG_zonedUnits_14 : decode M_SG_zonedUnits.2.1 14 = .ok (.isub, 1) := by decide +kernel
theorem d_SG_zonedUnits_15 : decode M_SG_zonedUnits.2.1 15 = .ok (.iaload, 1) := by decide +kernel
theorem d_SG_zonedUnits_16 : decode M_SG_zonedUnits.2.1 16 = .ok (.bipush 48, 2) := by decide +kernel
theorem d_SG_zonedUnits_18 : decode M_SG_zonedUnits.2.1 18 = .ok (.isub, 1) := by decide +kernel
theorem d_SG_zonedUnits_19 : decode M_SG_zonedUnits.2.1 19 = .ok (.istore_n 2, 1) := by decide +kernel
theorem d_SG_zonedUnits_20 : decode M_SG_zonedUnits.2.1 20 = .ok (.aload_n 1, 1) := by decide +kernel
theorem d_SG_zonedUnits_21 : decode M_SG_zonedUnits.2.1 21 = .ok (.getfield 44, 3) := by decide +kernel
theorem d_SG_zonedUnits_24 : decode M_SG_zonedUnits.2.1 24 = .ok (.ifCond .eq 17, 3) := by decide +kernel
theorem d_SG_zonedUnits_27 : decode M_SG_zonedUnits.2.1 27 = .ok (.iload_n 2, 1) := by decide +kernel
theorem d_SG_zonedUnits_28 : decode M_SG_zonedUnits.2.1 28 = .ok (.bipush 64, 2) := by decide +kernel
theorem d_SG_zonedUnits_30 : decode M_SG_zonedUnits.2.1 30 = .ok (.isub, 1) := by decide +kernel
theorem d_SG_zonedUnits_31 : decode M_SG_zonedUnits.2.1 31 = .ok (.invokestatic 73, 3) := by decide +kernel
theorem d_SG_zonedUnits_34 : decode M_SG_zonedUnits.2.1 34 = .ok (.ifCond .eq 7, 3) := by decide +kernel
theorem d_SG_zonedUnits_37 : decode M_SG_zonedUnits.2.1 37 = .ok (.iconst 1, 1) := by decide +kernel
theorem d_SG_zonedUnits_38 : decode M_SG_zonedUnits.2.1 38 = .ok (.goto 4, 3) := by decide +kernel
theorem d_SG_zonedUnits_41 : decode M_SG_zonedUnits.2.1 41 = .ok (.iconst 0, 1) := by decide +kernel
theorem d_SG_zonedUnits_42 : decode M_SG_zonedUnits.2.1 42 = .ok (.istore_n 3, 1) := by decide +kernel
theorem d_SG_zonedUnits_43 : decode M_SG_zonedUnits.2.1 43 = .ok (.iload_n 3, 1) := by decide +kernel
theorem d_SG_zonedUnits_44 : decode M_SG_zonedUnits.2.1 44 = .ok (.ifCond .eq 6, 3) := by decide +kernel
theorem d_SG_zonedUnits_47 : decode M_SG_zonedUnits.2.1 47 = .ok (.iinc 2 (-64), 3) := by decide +kernel
theorem d_SG_zonedUnits_50 : decode M_SG_zonedUnits.2.1 50 = .ok (.aload_n 0, 1) := by decide +kernel
theorem d_SG_zonedUnits_51 : decode M_SG_zonedUnits.2.1 51 = .ok (.aload_n 1, 1) := by decide +kernel
theorem d_SG_zonedUnits_52 : decode M_SG_zonedUnits.2.1 52 = .ok (.getfield 61, 3) := by decide +kernel
theorem d_SG_zonedUnits_55 : decode M_SG_zonedUnits.2.1 55 = .ok (.aload_n 1, 1) := by decide +kernel
theorem d_SG_zonedUnits_56 : decode M_SG_zonedUnits.2.1 56 = .ok (.getfield 64, 3) := by decide +kernel
theorem d_SG_zonedUnits_59 : decode M_SG_zonedUnits.2.1 59 = .ok (.iconst 1, 1) := by decide +kernel
theorem d_SG_zonedUnits_60 : decode M_SG_zonedUnits.2.1 60 = .ok (.isub, 1) := by decide +kernel
theorem d_SG_zonedUnits_61 : decode M_SG_zonedUnits.2.1 61 = .ok (.invokevirtual 77, 3) := by decide +kernel
theorem d_SG_zonedUnits_64 : decode M_SG_zonedUnits.2.1 64 = .ok (.lstore 4, 2) := by decide +kernel
theorem d_SG_zonedUnits_66 : decode M_SG_zonedUnits.2.1 66 = .ok (.lload 4, 2) := by decide +kernel
theorem d_SG_zonedUnits_68 : decode M_SG_zonedUnits.2.1 68 = .ok (.ldc2_w 81, 3) := by decide +kernel
theorem d_SG_zonedUnits_71 : decode M_SG_zonedUnits.2.1 71 = .ok (.lcmp, 1) := by decide +kernel
theorem d_SG_zonedUnits_72 : decode M_SG_zonedUnits.2.1 72 = .ok (.ifCond .eq 10, 3) := by decide +kernel
theorem d_SG_zonedUnits_75 : decode M_SG_zonedUnits.2.1 75 = .ok (.iload_n 2, 1) := by decide +kernel
theorem d_SG_zonedUnits_76 : decode M_SG_zonedUnits.2.1 76 = .ok (.invokestatic 73, 3) := by decide +kernel
theorem d_SG_zonedUnits_79 : decode M_SG_zonedUnits.2.1 79 = .ok (.ifCond .ne 7, 3) := by decide +kernel
theorem d_SG_zonedUnits_82 : decode M_SG_zonedUnits.2.1 82 = .ok (.ldc2_w 81, 3) := by decide +kernel
theorem d_SG_zonedUnits_85 : decode M_SG_zonedUnits.2.1 85 = .ok (.lreturn, 1) := by decide +kernel
theorem d_SG_zonedUnits_86 : decode M_SG_zonedUnits.2.1 86 = .ok (.ldc2_w 83, 3) := by decide +kernel
theorem d_SG_zonedUnits_89 : decode M_SG_zonedUnits.2.1 89 = .ok (.lload 4, 2) := by decide +kernel
theorem d_SG_zonedUnits_91 : decode M_SG_zonedUnits.2.1 91 = .ok (.lmul, 1) := by decide +kernel
theorem d_SG_zonedUnits_92 : decode M_SG_zonedUnits.2.1 92 = .ok (.iload_n 2, 1) := by decide +kernel
theorem d_SG_zonedUnits_93 : decode M_SG_zonedUnits.2.1 93 = .ok (.i2l, 1) := by decide +kernel
theorem d_SG_zonedUnits_94 : decode M_SG_zonedUnits.2.1 94 = .ok (.ladd, 1) := by decide +kernel
theorem d_SG_zonedUnits_95 : decode M_SG_zonedUnits.2.1 95 = .ok (.iload_n 3, 1) := by decide +kernel
theorem d_SG_zonedUnits_96 : decode M_SG_zonedUnits.2.1 96 = .ok (.invokestatic 85, 3) := by decide +kernel
theorem d_SG_zonedUnits_99 : decode M_SG_zonedUnits.2.1 99 = .ok (.lreturn, 1) := by decide +kernel
theorem d_PR_put_0 : decode M_PR_put.2.1 0 = .ok (.aload_n 0, 1) := by decide +kernel
theorem d_PR_put_1 : decode M_PR_put.2.1 1 = .ok (.iload_n 1, 1) := by decide +kernel
theorem d_PR_put_2 : decode M_PR_put.2.1 2 = .ok (.invokevirtual 59, 3) := by decide +kernel
theorem d_PR_put_5 : decode M_PR_put.2.1 5 = .ok (.astore 4, 2) := by decide +kernel
theorem d_PR_put_7 : decode M_PR_put.2.1 7 = .ok (.aload 4, 2) := by decide +kernel
theorem d_PR_put_9 : decode M_PR_put.2.1 9 = .ok (.ifnull 13, 3) := by decide +kernel
theorem d_PR_put_12 : decode M_PR_put.2.1 12 = .ok (.iload_n 3, 1) := by decide +kernel
theorem d_PR_put_13 : decode M_PR_put.2.1 13 = .ok (.ifCond .lt 9, 3) := by decide +kernel
theorem d_PR_put_16 : decode M_PR_put.2.1 16 = .ok (.iload_n 3, 1) := by decide +kernel
theorem d_PR_put_17 : decode M_PR_put.2.1 17 = .ok (.bipush 9, 2) := by decide +kernel
theorem d_PR_put_19 : decode M_PR_put.2.1 19 = .ok (.if_icmp .le 5, 3) := by decide +kernel
theorem d_PR_put_22 : decode M_PR_put.2.1 22 = .ok (.iconst 0, 1) := by decide +kernel
theorem d_PR_put_23 : decode M_PR_put.2.1 23 = .ok (.ireturn, 1) := by decide +kernel
theorem d_PR_put_24 : decode M_PR_put.2.1 24 = .ok (.aload_n 0, 1) := by decide +kernel
theorem d_PR_put_25 : decode M_PR_put.2.1 25 = .ok (.aload 4, 2) := by decide +kernel
theorem d_PR_put_27 : decode M_PR_put.2.1 27 = .ok (.iload_n 2, 1) := by decide +kernel
theorem d_PR_put_28 : decode M_PR_put.2.1 28 = .ok (.i2l, 1) := by decide +kernel
theorem d_PR_put_29 : decode M_PR_put.2.1 29 = .ok (.iload_n 3, 1) := by decide +kernel
theorem d_PR_put_30 : decode M_PR_put.2.1 30 = .ok (.invokevirtual 93, 3) := by decide +kernel
theorem d_PR_put_33 : decode M_PR_put.2.1 33 = .ok (.iconst 1, 1) := by decide +kernel
theorem d_PR_put_34 : decode M_PR_put.2.1 34 = .ok (.ireturn, 1) := by decide +kernel
theorem d_PR_storeByMove_0 : decode M_PR_storeByMove.2.1 0 = .ok (.lload_n 2, 1) := by decide +kernel
theorem d_PR_storeByMove_1 : decode M_PR_storeByMove.2.1 1 = .ok (.aload_n 1, 1) := by decide +kernel
theorem d_PR_storeByMove_2 : decode M_PR_storeByMove.2.1 2 = .ok (.getfield 69, 3) := by decide +kernel
theorem d_PR_storeByMove_5 : decode M_PR_storeByMove.2.1 5 = .ok (.invokestatic 148, 3) := by decide +kernel
theorem d_PR_storeByMove_8 : decode M_PR_storeByMove.2.1 8 = .ok (.lmul, 1) := by decide +kernel
theorem d_PR_storeByMove_9 : decode M_PR_storeByMove.2.1 9 = .ok (.iload 4, 2) := by decide +kernel
theorem d_PR_storeByMove_11 : decode M_PR_storeByMove.2.1 11 = .ok (.invokestatic 148, 3) := by decide +kernel
theorem d_PR_storeByMove_14 : decode M_PR_storeByMove.2.1 14 = .ok (.ldiv, 1) := by decide +kernel
theorem d_PR_storeByMove_15 : decode M_PR_storeByMove.2.1 15 = .ok (.lstore 5, 2) := by decide +kernel
theorem d_PR_storeByMove_17 : decode M_PR_storeByMove.2.1 17 = .ok (.aload_n 0, 1) := by decide +kernel
theorem d_PR_storeByMove_18 : decode M_PR_storeByMove.2.1 18 = .ok (.getfield 29, 3) := by decide +kernel
theorem d_PR_storeByMove_21 : decode M_PR_storeByMove.2.1 21 = .ok (.aload_n 1, 1) := by decide +kernel
theorem d_PR_storeByMove_22 : decode M_PR_storeByMove.2.1 22 = .ok (.lload 5, 2) := by decide +kernel
theorem d_PR_storeByMove_24 : decode M_PR_storeByMove.2.1 24 = .ok (.aload_n 1, 1) := by decide +kernel
theorem d_PR_storeByMove_25 : decode M_PR_storeByMove.2.1 25 = .ok (.getfield 66, 3) := by decide +kernel
theorem d_PR_storeByMove_28 : decode M_PR_storeByMove.2.1 28 = .ok (.invokestatic 148, 3) := by decide +kernel
theorem d_PR_storeByMove_31 : decode M_PR_storeByMove.2.1 31 = .ok (.lrem, 1) := by decide +kernel
theorem d_PR_storeByMove_32 : decode M_PR_storeByMove.2.1 32 = .ok (.invokevirtual 156, 3) := by decide +kernel
theorem d_PR_storeByMove_35 : decode M_PR_storeByMove.2.1 35 = .ok (.return_, 1) := by decide +kernel
theorem d_SG_store_0 : decode M_SG_store.2.1 0 = .ok (.aload_n 1, 1) := by decide +kernel
theorem d_SG_store_1 : decode M_SG_store.2.1 1 = .ok (.getfield 44, 3) := by decide +kernel
theorem d_SG_store_4 : decode M_SG_store.2.1 4 = .ok (.ifCond .eq 7, 3) := by decide +kernel
theorem d_SG_store_7 : decode M_SG_store.2.1 7 = .ok (.lload_n 2, 1) := by decide +kernel
theorem d_SG_store_8 : decode M_SG_store.2.1 8 = .ok (.goto 7, 3) := by decide +kernel
theorem d_SG_store_11 : decode M_SG_store.2.1 11 = .ok (.lload_n 2, 1) := by decide +kernel
theorem d_SG_store_12 : decode M_SG_store.2.1 12 = .ok (.invokestatic 48, 3) := by decide +kernel
theorem d_SG_store_15 : decode M_SG_store.2.1 15 = .ok (.lstore 4, 2) := by decide +kernel
theorem d_SG_store_17 : decode M_SG_store.2.1 17 = .ok (.aload_n 1, 1) := by decide +kernel
theorem d_SG_store_18 : decode M_SG_store.2.1 18 = .ok (.getfield 22, 3) := by decide +kernel
theorem d_SG_store_21 : decode M_SG_store.2.1 21 = .ok (.tableswitch 102 1 4 #[31, 41, 82, 92], 31) := by decide +kernel
theorem d_SG_store_52 : decode M_SG_store.2.1 52 = .ok (.aload_n 0, 1) := by decide +kernel
theorem d_SG_store_53 : decode M_SG_store.2.1 53 = .ok (.aload_n 1, 1) := by decide +kernel
theorem d_SG_store_54 : decode M_SG_store.2.1 54 = .ok (.lload 4, 2) := by decide +kernel
theorem d_SG_store_56 : decode M_SG_store.2.1 56 = .ok (.invokevirtual 54, 3) := by decide +kernel
theorem d_SG_store_59 : decode M_SG_store.2.1 59 = .ok (.goto 106, 3) := by decide +kernel
theorem d_SG_store_62 : decode M_SG_store.2.1 62 = .ok (.aload_n 0, 1) := by decide +kernel
theorem d_SG_store_63 : decode M_SG_store.2.1 63 = .ok (.aload_n 1, 1) := by decide +kernel
theorem d_SG_store_64 : decode M_SG_store.2.1 64 = .ok (.lload 4, 2) := by decide +kernel
theorem d_SG_store_66 : decode M_SG_store.2.1 66 = .ok (.invokestatic 48, 3) := by decide +kernel
theorem d_SG_store_69 : decode M_SG_store.2.1 69 = .ok (.invokevirtual 58, 3) := by decide +kernel
theorem d_SG_store_72 : decode M_SG_store.2.1 72 = .ok (.aload_n 0, 1) := by decide +kernel
theorem d_SG_store_73 : decode M_SG_store.2.1 73 = .ok (.getfield 9, 3) := by decide +kernel
theorem d_SG_store_76 : decode M_SG_store.2.1 76 = .ok (.aload_n 1, 1) := by decide +kernel
theorem d_SG_store_77 : decode M_SG_store.2.1 77 = .ok (.getfield 61, 3) := by decide +kernel
theorem d_SG_store_80 : decode M_SG_store.2.1 80 = .ok (.aload_n 1, 1) := by decide +kernel
theorem d_SG_store_81 : decode M_SG_store.2.1 81 = .ok (.getfield 64, 3) := by decide +kernel
theorem d_SG_store_84 : decode M_SG_store.2.1 84 = .ok (.iadd, 1) := by decide +kernel
theorem d_SG_store_85 : decode M_SG_store.2.1 85 = .ok (.lload 4, 2) := by decide +kernel
theorem d_SG_store_87 : decode M_SG_store.2.1 87 = .ok (.lconst 0, 1) := by decide +kernel
theorem d_SG_store_88 : decode M_SG_store.2.1 88 = .ok (.lcmp, 1) := by decide +kernel
theorem d_SG_store_89 : decode M_SG_store.2.1 89 = .ok (.ifCond .ge 8, 3) := by decide +kernel
theorem d_SG_store_92 : decode M_SG_store.2.1 92 = .ok (.bipush 45, 2) := by decide +kernel
theorem d_SG_store_94 : decode M_SG_store.2.1 94 = .ok (.goto 5, 3) := by decide +kernel
theorem d_SG_store_97 : decode M_SG_store.2.1 97 = .ok (.bipush 43, 2) := by decide +kernel
theorem d_SG_store_99 : decode M_SG_store.2.1 99 = .ok (.iastore, 1) := by decide +kernel
theorem d_SG_store_100 : decode M_SG_store.2.1 100 = .ok (.goto 65, 3) := by decide +kernel
theorem d_SG_store_103 : decode M_SG_store.2.1 103 = .ok (.aload_n 0, 1) := by decide +kernel
theorem d_SG_store_104 : decode M_SG_store.2.1 104 = .ok (.aload_n 1, 1) := by decide +kernel
theorem d_SG_store_105 : decode M_SG_store.2.1 105 = .ok (.lload 4, 2) := by decide +kernel
theorem d_SG_store_107 : decode M_SG_store.2.1 107 = .ok (.invokevirtual 67, 3) := by decide +kernel
theorem d_SG_store_110 : decode M_SG_store.2.1 110 = .ok (.goto 55, 3) := by decide +kernel
theorem d_SG_store_113 : decode M_SG_store.2.1 113 = .ok (.aload_n 0, 1) := by decide +kernel
theorem d_SG_store_114 : decode M_SG_store.2.1 114 = .ok (.aload_n 1, 1) := by decide +kernel
theorem d_SG_store_115 : decode M_SG_store.2.1 115 = .ok (.lload 4, 2) := by decide +kernel
theorem d_SG_store_117 : decode M_SG_store.2.1 117 = .ok (.invokevirtual 70, 3) := by decide +kernel
theorem d_SG_store_120 : decode M_SG_store.2.1 120 = .ok (.goto 45, 3) := by decide +kernel
theorem d_SG_store_123 : decode M_SG_store.2.1 123 = .ok (.aload_n 0, 1) := by decide +kernel
theorem d_SG_store_124 : decode M_SG_store.2.1 124 = .ok (.aload_n 1, 1) := by decide +kernel
theorem d_SG_store_125 : decode M_SG_store.2.1 125 = .ok (.lload 4, 2) := by decide +kernel
theorem d_SG_store_127 : decode M_SG_store.2.1 127 = .ok (.invokestatic 48, 3) := by decide +kernel
theorem d_SG_store_130 : decode M_SG_store.2.1 130 = .ok (.invokevirtual 58, 3) := by decide +kernel
theorem d_SG_store_133 : decode M_SG_store.2.1 133 = .ok (.aload_n 0, 1) := by decide +kernel
theorem d_SG_store_134 : decode M_SG_store.2.1 134 = .ok (.getfield 9, 3) := by decide +kernel
theorem d_SG_store_137 : decode M_SG_store.2.1 137 = .ok (.aload_n 1, 1) := by decide +kernel
theorem d_SG_store_138 : decode M_SG_store.2.1 138 = .ok (.getfield 61, 3) := by decide +kernel
theorem d_SG_store_141 : decode M_SG_store.2.1 141 = .ok (.aload_n 1, 1) := by decide +kernel
theorem d_SG_store_142 : decode M_SG_store.2.1 142 = .ok (.getfield 64, 3) := by decide +kernel
theorem d_SG_store_145 : decode M_SG_store.2.1 145 = .ok (.iadd, 1) := by decide +kernel
theorem d_SG_store_146 : decode M_SG_store.2.1 146 = .ok (.iconst 1, 1) := by decide +kernel
theorem d_SG_store_147 : decode M_SG_store.2.1 147 = .ok (.isub, 1) := by decide +kernel
theorem d_SG_store_148 : decode M_SG_store.2.1 148 = .ok (.dup2, 1) := by decide +kernel
theorem d_SG_store_149 : decode M_SG_store.2.1 149 = .ok (.iaload, 1) := by decide +kernel
theorem d_SG_store_150 : decode M_SG_store.2.1 150 = .ok (.lload 4, 2) := by decide +kernel
theorem d_SG_store_152 : decode M_SG_store.2.1 152 = .ok (.lconst 0, 1) := by decide +kernel
theorem d_SG_store_153 : decode M_SG_store.2.1 153 = .ok (.lcmp, 1) := by decide +kernel
theorem d_SG_store_154 : decode M_SG_store.2.1 154 = .ok (.ifCond .ge 8, 3) := by decide +kernel
theorem d_SG_store_157 : decode M_SG_store.2.1 157 = .ok (.bipush 64, 2) := by decide +kernel
theorem d_SG_store_159 : decode M_SG_store.2.1 159 = .ok (.goto 4, 3) := by decide +kernel
theorem d_SG_store_162 : decode M_SG_store.2.1 162 = .ok (.iconst 0, 1) := by decide +kernel
theorem d_SG_store_163 : decode M_SG_store.2.1 163 = .ok (.iadd, 1) := by decide +kernel
theorem d_SG_store_164 : decode M_SG_store.2.1 164 = .ok (.iastore, 1) := by decide +kernel
theorem d_SG_store_165 : decode M_SG_store.2.1 165 = .ok (.return_, 1) := by decide +kernel
theorem d_SG_storePacked_0 : decode M_SG_storePacked.2.1 0 = .ok (.lload_n 2, 1) := by decide +kernel
theorem d_SG_storePacked_1 : decode M_SG_storePacked.2.1 1 = .ok (.invokestatic 48, 3) := by decide +kernel
theorem d_SG_storePacked_4 : decode M_SG_storePacked.2.1 4 = .ok (.lstore 4, 2) := by decide +kernel
theorem d_SG_storePacked_6 : decode M_SG_storePacked.2.1 6 = .ok (.bipush 15, 2) := by decide +kernel
theorem d_SG_storePacked_8 : decode M_SG_storePacked.2.1 8 = .ok (.istore 6, 2) := by decide +kernel
theorem d_SG_storePacked_10 : decode M_SG_storePacked.2.1 10 = .ok (.aload_n 1, 1) := by decide +kernel
theorem d_SG_storePacked_11 : decode M_SG_storePacked.2.1 11 = .ok (.getfield 44, 3) := by decide +kernel
theorem d_SG_storePacked_14 : decode M_SG_storePacked.2.1 14 = .ok (.ifCond .eq 18, 3) := by decide +kernel
theorem d_SG_storePacked_17 : decode M_SG_storePacked.2.1 17 = .ok (.lload_n 2, 1) := by decide +kernel
theorem d_SG_storePacked_18 : decode M_SG_storePacked.2.1 18 = .ok (.lconst 0, 1) := by decide +kernel
theorem d_SG_storePacked_19 : decode M_SG_storePacked.2.1 19 = .ok (.lcmp, 1) := by decide +kernel
theorem d_SG_storePacked_20 : decode M_SG_storePacked.2.1 20 = .ok (.ifCond .ge 8, 3) := by decide +kernel
theorem d_SG_storePacked_23 : decode M_SG_storePacked.2.1 23 = .ok (.bipush 13, 2) := by decide +kernel
theorem d_SG_storePacked_25 : decode M_SG_storePacked.2.1 25 = .ok (.goto 5, 3) := by decide +kernel
theorem d_SG_storePacked_28 : decode M_SG_storePacked.2.1 28 = .ok (.bipush 12, 2) := by decide +kernel
theorem d_SG_storePacked_30 : decode M_SG_storePacked.2.1 30 = .ok (.istore 6, 2) := by decide +kernel
theorem d_SG_storePacked_32 : decode M_SG_storePacked.2.1 32 = .ok (.aload_n 1, 1) := by decide +kernel
theorem d_SG_storePacked_33 : decode M_SG_storePacked.2.1 33 = .ok (.getfield 61, 3) := by decide +kernel
theorem d_SG_storePacked_36 : decode M_SG_storePacked.2.1 36 = .ok (.aload_n 1, 1) := by decide +kernel
theorem d_SG_storePacked_37 : decode M_SG_storePacked.2.1 37 = .ok (.getfield 89, 3) := by decide +kernel
theorem d_SG_storePacked_40 : decode M_SG_storePacked.2.1 40 = .ok (.iadd, 1) := by decide +kernel
theorem d_SG_storePacked_41 : decode M_SG_storePacked.2.1 41 = .ok (.iconst 1, 1) := by decide +kernel
theorem d_SG_storePacked_42 : decode M_SG_storePacked.2.1 42 = .ok (.isub, 1) := by decide +kernel
theorem d_SG_storePacked_43 : decode M_SG_storePacked.2.1 43 = .ok (.istore 7, 2) := by decide +kernel
theorem d_SG_storePacked_45 : decode M_SG_storePacked.2.1 45 = .ok (.iload 7, 2) := by decide +kernel
theorem d_SG_storePacked_47 : decode M_SG_storePacked.2.1 47 = .ok (.aload_n 1, 1) := by decide +kernel
theorem d_SG_storePacked_48 : decode M_SG_storePacked.2.1 48 = .ok (.getfield 61, 3) := by decide +kernel
theorem d_SG_storePacked_51 : decode M_SG_storePacked.2.1 51 = .ok (.if_icmp .lt 50, 3) := by decide +kernel
theorem d_SG_storePacked_54 : decode M_SG_storePacked.2.1 54 = .ok (.aload_n 0, 1) := by decide +kernel
theorem d_SG_storePacked_55 : decode M_SG_storePacked.2.1 55 = .ok (.getfield 9, 3) := by decide +kernel
theorem d_SG_storePacked_58 : decode M_SG_storePacked.2.1 58 = .ok (.iload 7, 2) := by decide +kernel
theorem d_SG_storePacked_60 : decode M_SG_storePacked.2.1 60 = .ok (.bipush 16, 2) := by decide +kernel
theorem d_SG_storePacked_62 : decode M_SG_storePacked.2.1 62 = .ok (.lload 4, 2) := by decide +kernel
theorem d_SG_storePacked_64 : decode M_SG_storePacked.2.1 64 = .ok (.ldc2_w 83, 3) := by decide +kernel
theorem d_SG_storePacked_67 : decode M_SG_storePacked.2.1 67 = .ok (.lrem, 1) := by decide +kernel
theorem d_SG_storePacked_68 : decode M_SG_storePacked.2.1 68 = .ok (.l2i, 1) := by decide +kernel
theorem d_SG_storePacked_69 : decode M_SG_storePacked.2.1 69 = .ok (.imul, 1) := by decide +kernel
theorem d_SG_storePacked_70 : decode M_SG_storePacked.2.1 70 = .ok (.iload 6, 2) := by decide +kernel
theorem d_SG_storePacked_72 : decode M_SG_storePacked.2.1 72 = .ok (.iadd, 1) := by decide +kernel
theorem d_SG_storePacked_73 : decode M_SG_storePacked.2.1 73 = .ok (.iastore, 1) := by decide +kernel
theorem d_SG_storePacked_74 : decode M_SG_storePacked.2.1 74 = .ok (.lload 4, 2) := by decide +kernel
theorem d_SG_storePacked_76 : decode M_SG_storePacked.2.1 76 = .ok (.ldc2_w 83, 3) := by decide +kernel
theorem d_SG_storePacked_79 : decode M_SG_storePacked.2.1 79 = .ok (.ldiv, 1) := by decide +kernel
theorem d_SG_storePacked_80 : decode M_SG_storePacked.2.1 80 = .ok (.ldc2_w 83, 3) := by decide +kernel
theorem d_SG_storePacked_83 : decode M_SG_storePacked.2.1 83 = .ok (.lrem, 1) := by decide +kernel
theorem d_SG_storePacked_84 : decode M_SG_storePacked.2.1 84 = .ok (.l2i, 1) := by decide +kernel
theorem d_SG_storePacked_85 : decode M_SG_storePacked.2.1 85 = .ok (.istore 6, 2) := by decide +kernel
theorem d_SG_storePacked_87 : decode M_SG_storePacked.2.1 87 = .ok (.lload 4, 2) := by decide +kernel
theorem d_SG_storePacked_89 : decode M_SG_storePacked.2.1 89 = .ok (.ldc2_w 102, 3) := by decide +kernel
theorem d_SG_storePacked_92 : decode M_SG_storePacked.2.1 92 = .ok (.ldiv, 1) := by decide +kernel
theorem d_SG_storePacked_93 : decode M_SG_storePacked.2.1 93 = .ok (.lstore 4, 2) := by decide +kernel
theorem d_SG_storePacked_95 : decode M_SG_storePacked.2.1 95 = .ok (.iinc 7 (-1), 3) := by decide +kernel
theorem d_SG_storePacked_98 : decode M_SG_storePacked.2.1 98 = .ok (.goto (-53), 3) := by decide +kernel
theorem d_SG_storePacked_101 : decode M_SG_storePacked.2.1 101 = .ok (.return_, 1) := by decide +kernel
theorem d_SG_storeDigits_0 : decode M_SG_storeDigits.2.1 0 = .ok (.lload_n 2, 1) := by decide +kernel
theorem d_SG_storeDigits_1 : decode M_SG_storeDigits.2.1 1 = .ok (.lstore 4, 2) := by decide +kernel
theorem d_SG_storeDigits_3 : decode M_SG_storeDigits.2.1 3 = .ok (.aload_n 1, 1) := by decide +kernel
theorem d_SG_storeDigits_4 : decode M_SG_storeDigits.2.1 4 = .ok (.getfield 61, 3) := by decide +kernel
theorem d_SG_storeDigits_7 : decode M_SG_storeDigits.2.1 7 = .ok (.aload_n 1, 1) := by decide +kernel
theorem d_SG_storeDigits_8 : decode M_SG_storeDigits.2.1 8 = .ok (.getfield 64, 3) := by decide +kernel
theorem d_SG_storeDigits_11 : decode M_SG_storeDigits.2.1 11 = .ok (.iadd, 1) := by decide +kernel
theorem d_SG_storeDigits_12 : decode M_SG_storeDigits.2.1 12 = .ok (.iconst 1, 1) := by decide +kernel
theorem d_SG_storeDigits_13 : decode M_SG_storeDigits.2.1 13 = .ok (.isub, 1) := by decide +kernel
theorem d_SG_storeDigits_14 : decode M_SG_storeDigits.2.1 14 = .ok (.istore 6, 2) := by decide +kernel
theorem d_SG_storeDigits_16 : decode M_SG_storeDigits.2.1 16 = .ok (.iload 6, 2) := by decide +kernel
theorem d_SG_storeDigits_18 : decode M_SG_storeDigits.2.1 18 = .ok (.aload_n 1, 1) := by decide +kernel
theorem d_SG_storeDigits_19 : decode M_SG_storeDigits.2.1 19 = .ok (.getfield 61, 3) := by decide +kernel
theorem d_SG_storeDigits_22 : decode M_SG_storeDigits.2.1 22 = .ok (.if_icmp .lt 34, 3) := by decide +kernel
theorem d_SG_storeDigits_25 : decode M_SG_storeDigits.2.1 25 = .ok (.aload_n 0, 1) := by decide +kernel
theorem d_SG_storeDigits_26 : decode M_SG_storeDigits.2.1 26 = .ok (.getfield 9, 3) := by decide +kernel
theorem d_SG_storeDigits_29 : decode M_SG_storeDigits.2.1 29 = .ok (.iload 6, 2) := by decide +kernel
theorem d_SG_storeDigits_31 : decode M_SG_storeDigits.2.1 31 = .ok (.bipush 48, 2) := by decide +kernel
theorem d_SG_storeDigits_33 : decode M_SG_storeDigits.2.1 33 = .ok (.lload 4, 2) := by decide +kernel
theorem d_SG_storeDigits_35 : decode M_SG_storeDigits.2.1 35 = .ok (.ldc2_w 83, 3) := by decide +kernel
theorem d_SG_storeDigits_38 : decode M_SG_storeDigits.2.1 38 = .ok (.lrem, 1) := by decide +kernel
theorem d_SG_storeDigits_39 : decode M_SG_storeDigits.2.1 39 = .ok (.l2i, 1) := by decide +kernel
theorem d_SG_storeDigits_40 : decode M_SG_storeDigits.2.1 40 = .ok (.iadd, 1) := by decide +kernel
theorem d_SG_storeDigits_41 : decode M_SG_storeDigits.2.1 41 = .ok (.iastore, 1) := by decide +kernel
theorem d_SG_storeDigits_42 : decode M_SG_storeDigits.2.1 42 = .ok (.lload 4, 2) := by decide +kernel
theorem d_SG_storeDigits_44 : decode M_SG_storeDigits.2.1 44 = .ok (.ldc2_w 83, 3) := by decide +kernel
theorem d_SG_storeDigits_47 : decode M_SG_storeDigits.2.1 47 = .ok (.ldiv, 1) := by decide +kernel
theorem d_SG_storeDigits_48 : decode M_SG_storeDigits.2.1 48 = .ok (.lstore 4, 2) := by decide +kernel
theorem d_SG_storeDigits_50 : decode M_SG_storeDigits.2.1 50 = .ok (.iinc 6 (-1), 3) := by decide +kernel
theorem d_SG_storeDigits_53 : decode M_SG_storeDigits.2.1 53 = .ok (.goto (-37), 3) := by decide +kernel
theorem d_SG_storeDigits_56 : decode M_SG_storeDigits.2.1 56 = .ok (.return_, 1) := by decide +kernel
theorem d_SG_storeBinary_0 : decode M_SG_storeBinary.2.1 0 = .ok (.lload_n 2, 1) := by decide +kernel
theorem d_SG_storeBinary_1 : decode M_SG_storeBinary.2.1 1 = .ok (.lstore 4, 2) := by decide +kernel
theorem d_SG_storeBinary_3 : decode M_SG_storeBinary.2.1 3 = .ok (.aload_n 1, 1) := by decide +kernel
theorem d_SG_storeBinary_4 : decode M_SG_storeBinary.2.1 4 = .ok (.getfield 61, 3) := by decide +kernel
theorem d_SG_storeBinary_7 : decode M_SG_storeBinary.2.1 7 = .ok (.aload_n 1, 1) := by decide +kernel
theorem d_SG_storeBinary_8 : decode M_SG_storeBinary.2.1 8 = .ok (.getfield 89, 3) := by decide +kernel
theorem d_SG_storeBinary_11 : decode M_SG_storeBinary.2.1 11 = .ok (.iadd, 1) := by decide +kernel
theorem d_SG_storeBinary_12 : decode M_SG_storeBinary.2.1 12 = .ok (.iconst 1, 1) := by decide +kernel
theorem d_SG_storeBinary_13 : decode M_SG_storeBinary.2.1 13 = .ok (.isub, 1) := by decide +kernel
theorem d_SG_storeBinary_14 : decode M_SG_storeBinary.2.1 14 = .ok (.istore 6, 2) := by decide +kernel
theorem d_SG_storeBinary_16 : decode M_SG_storeBinary.2.1 16 = .ok (.iload 6, 2) := by decide +kernel
theorem d_SG_storeBinary_18 : decode M_SG_storeBinary.2.1 18 = .ok (.aload_n 1, 1) := by decide +kernel
theorem d_SG_storeBinary_19 : decode M_SG_storeBinary.2.1 19 = .ok (.getfield 61, 3) := by decide +kernel
theorem d_SG_storeBinary_22 : decode M_SG_storeBinary.2.1 22 = .ok (.if_icmp .lt 30, 3) := by decide +kernel
theorem d_SG_storeBinary_25 : decode M_SG_storeBinary.2.1 25 = .ok (.aload_n 0, 1) := by decide +kernel
theorem d_SG_storeBinary_26 : decode M_SG_storeBinary.2.1 26 = .ok (.getfield 9, 3) := by decide +kernel
theorem d_SG_storeBinary_29 : decode M_SG_storeBinary.2.1 29 = .ok (.iload 6, 2) := by decide +kernel
theorem d_SG_storeBinary_31 : decode M_SG_storeBinary.2.1 31 = .ok (.lload 4, 2) := by decide +kernel
theorem d_SG_storeBinary_33 : decode M_SG_storeBinary.2.1 33 = .ok (.ldc2_w 106, 3) := by decide +kernel
theorem d_SG_storeBinary_36 : decode M_SG_storeBinary.2.1 36 = .ok (.land, 1) := by decide +kernel
theorem d_SG_storeBinary_37 : decode M_SG_storeBinary.2.1 37 = .ok (.l2i, 1) := by decide +kernel
theorem d_SG_storeBinary_38 : decode M_SG_storeBinary.2.1 38 = .ok (.iastore, 1) := by decide +kernel
theorem d_SG_storeBinary_39 : decode M_SG_storeBinary.2.1 39 = .ok (.lload 4, 2) := by decide +kernel
theorem d_SG_storeBinary_41 : decode M_SG_storeBinary.2.1 41 = .ok (.bipush 8, 2) := by decide +kernel
theorem d_SG_storeBinary_43 : decode M_SG_storeBinary.2.1 43 = .ok (.lshr, 1) := by decide +kernel
theorem d_SG_storeBinary_44 : decode M_SG_storeBinary.2.1 44 = .ok (.lstore 4, 2) := by decide +kernel
theorem d_SG_storeBinary_46 : decode M_SG_storeBinary.2.1 46 = .ok (.iinc 6 (-1), 3) := by decide +kernel
theorem d_SG_storeBinary_49 : decode M_SG_storeBinary.2.1 49 = .ok (.goto (-33), 3) := by decide +kernel
theorem d_SG_storeBinary_52 : decode M_SG_storeBinary.2.1 52 = .ok (.return_, 1) := by decide +kernel
theorem d_SG_storeEdited_0 : decode M_SG_storeEdited.2.1 0 = .ok (.aload_n 0, 1) := by decide +kernel
theorem d_SG_storeEdited_1 : decode M_SG_storeEdited.2.1 1 = .ok (.getfield 18, 3) := by decide +kernel
theorem d_SG_storeEdited_4 : decode M_SG_storeEdited.2.1 4 = .ok (.aload_n 1, 1) := by decide +kernel
theorem d_SG_storeEdited_5 : decode M_SG_storeEdited.2.1 5 = .ok (.getfield 108, 3) := by decide +kernel
theorem d_SG_storeEdited_8 : decode M_SG_storeEdited.2.1 8 = .ok (.lload_n 2, 1) := by decide +kernel
theorem d_SG_storeEdited_9 : decode M_SG_storeEdited.2.1 9 = .ok (.invokevirtual 123, 3) := by decide +kernel
theorem d_SG_storeEdited_12 : decode M_SG_storeEdited.2.1 12 = .ok (.aload_n 0, 1) := by decide +kernel
theorem d_SG_storeEdited_13 : decode M_SG_storeEdited.2.1 13 = .ok (.getfield 18, 3) := by decide +kernel
theorem d_SG_storeEdited_16 : decode M_SG_storeEdited.2.1 16 = .ok (.getfield 131, 3) := by decide +kernel
theorem d_SG_storeEdited_19 : decode M_SG_storeEdited.2.1 19 = .ok (.iconst 0, 1) := by decide +kernel
theorem d_SG_storeEdited_20 : decode M_SG_storeEdited.2.1 20 = .ok (.aload_n 0, 1) := by decide +kernel
theorem d_SG_storeEdited_21 : decode M_SG_storeEdited.2.1 21 = .ok (.getfield 9, 3) := by decide +kernel
theorem d_SG_storeEdited_24 : decode M_SG_storeEdited.2.1 24 = .ok (.aload_n 1, 1) := by decide +kernel
theorem d_SG_storeEdited_25 : decode M_SG_storeEdited.2.1 25 = .ok (.getfield 61, 3) := by decide +kernel
theorem d_SG_storeEdited_28 : decode M_SG_storeEdited.2.1 28 = .ok (.aload_n 1, 1) := by decide +kernel
theorem d_SG_storeEdited_29 : decode M_SG_storeEdited.2.1 29 = .ok (.getfield 89, 3) := by decide +kernel
theorem d_SG_storeEdited_32 : decode M_SG_storeEdited.2.1 32 = .ok (.invokestatic 134, 3) := by decide +kernel
theorem d_SG_storeEdited_35 : decode M_SG_storeEdited.2.1 35 = .ok (.return_, 1) := by decide +kernel
theorem d_PR_move_0 : decode M_PR_move.2.1 0 = .ok (.aload_n 0, 1) := by decide +kernel
theorem d_PR_move_1 : decode M_PR_move.2.1 1 = .ok (.iload_n 1, 1) := by decide +kernel
theorem d_PR_move_2 : decode M_PR_move.2.1 2 = .ok (.invokevirtual 59, 3) := by decide +kernel
theorem d_PR_move_5 : decode M_PR_move.2.1 5 = .ok (.astore_n 3, 1) := by decide +kernel
theorem d_PR_move_6 : decode M_PR_move.2.1 6 = .ok (.aload_n 0, 1) := by decide +kernel
theorem d_PR_move_7 : decode M_PR_move.2.1 7 = .ok (.iload_n 2, 1) := by decide +kernel
theorem d_PR_move_8 : decode M_PR_move.2.1 8 = .ok (.invokevirtual 59, 3) := by decide +kernel
theorem d_PR_move_11 : decode M_PR_move.2.1 11 = .ok (.astore 4, 2) := by decide +kernel
theorem d_PR_move_13 : decode M_PR_move.2.1 13 = .ok (.aload_n 3, 1) := by decide +kernel
theorem d_PR_move_14 : decode M_PR_move.2.1 14 = .ok (.ifnull 8, 3) := by decide +kernel
theorem d_PR_move_17 : decode M_PR_move.2.1 17 = .ok (.aload 4, 2) := by decide +kernel
theorem d_PR_move_19 : decode M_PR_move.2.1 19 = .ok (.ifnonnull 5, 3) := by decide +kernel
theorem d_PR_move_22 : decode M_PR_move.2.1 22 = .ok (.iconst (-1), 1) := by decide +kernel
theorem d_PR_move_23 : decode M_PR_move.2.1 23 = .ok (.ireturn, 1) := by decide +kernel
theorem d_PR_move_24 : decode M_PR_move.2.1 24 = .ok (.aload_n 0, 1) := by decide +kernel
theorem d_PR_move_25 : decode M_PR_move.2.1 25 = .ok (.getfield 29, 3) := by decide +kernel
