theorem d_PR_init_0 : decode M_PR_init.2.1 0 = .ok (.aload_n 0, 1) := by decide +kernel
theorem d_PR_init_1 : decode M_PR_init.2.1 1 = .ok (.invokespecial 1, 3) := by decide +kernel
theorem d_PR_init_4 : decode M_PR_init.2.1 4 = .ok (.aload_n 0, 1) := by decide +kernel
theorem d_PR_init_5 : decode M_PR_init.2.1 5 = .ok (.bipush 24, 2) := by decide +kernel
theorem d_PR_init_7 : decode M_PR_init.2.1 7 = .ok (.newarray .char, 2) := by decide +kernel
theorem d_PR_init_9 : decode M_PR_init.2.1 9 = .ok (.putfield 9, 3) := by decide +kernel
theorem d_PR_init_12 : decode M_PR_init.2.1 12 = .ok (.aload_n 0, 1) := by decide +kernel
theorem d_PR_init_13 : decode M_PR_init.2.1 13 = .ok (.new 13, 3) := by decide +kernel
theorem d_PR_init_16 : decode M_PR_init.2.1 16 = .ok (.dup, 1) := by decide +kernel
theorem d_PR_init_17 : decode M_PR_init.2.1 17 = .ok (.invokespecial 15, 3) := by decide +kernel
theorem d_PR_init_20 : decode M_PR_init.2.1 20 = .ok (.putfield 16, 3) := by decide +kernel
theorem d_PR_init_23 : decode M_PR_init.2.1 23 = .ok (.aload_n 0, 1) := by decide +kernel
theorem d_PR_init_24 : decode M_PR_init.2.1 24 = .ok (.bipush 12, 2) := by decide +kernel
theorem d_PR_init_26 : decode M_PR_init.2.1 26 = .ok (.anewarray 20, 3) := by decide +kernel
theorem d_PR_init_29 : decode M_PR_init.2.1 29 = .ok (.putfield 22, 3) := by decide +kernel
theorem d_PR_init_32 : decode M_PR_init.2.1 32 = .ok (.aload_n 0, 1) := by decide +kernel
theorem d_PR_init_33 : decode M_PR_init.2.1 33 = .ok (.new 26, 3) := by decide +kernel
theorem d_PR_init_36 : decode M_PR_init.2.1 36 = .ok (.dup, 1) := by decide +kernel
theorem d_PR_init_37 : decode M_PR_init.2.1 37 = .ok (.invokespecial 28, 3) := by decide +kernel
theorem d_PR_init_40 : decode M_PR_init.2.1 40 = .ok (.putfield 29, 3) := by decide +kernel
theorem d_PR_init_43 : decode M_PR_init.2.1 43 = .ok (.aload_n 0, 1) := by decide +kernel
theorem d_PR_init_44 : decode M_PR_init.2.1 44 = .ok (.bipush 12, 2) := by decide +kernel
theorem d_PR_init_46 : decode M_PR_init.2.1 46 = .ok (.newarray .long, 2) := by decide +kernel
theorem d_PR_init_48 : decode M_PR_init.2.1 48 = .ok (.putfield 33, 3) := by decide +kernel
theorem d_PR_init_51 : decode M_PR_init.2.1 51 = .ok (.return_, 1) := by decide +kernel
theorem d_PC_init_0 : decode M_PC_init.2.1 0 = .ok (.aload_n 0, 1) := by decide +kernel
theorem d_PC_init_1 : decode M_PC_init.2.1 1 = .ok (.invokespecial 3, 3) := by decide +kernel
theorem d_PC_init_4 : decode M_PC_init.2.1 4 = .ok (.aload_n 0, 1) := by decide +kernel
theorem d_PC_init_5 : decode M_PC_init.2.1 5 = .ok (.bipush 18, 2) := by decide +kernel
theorem d_PC_init_7 : decode M_PC_init.2.1 7 = .ok (.newarray .char, 2) := by decide +kernel
theorem d_PC_init_9 : decode M_PC_init.2.1 9 = .ok (.putfield 9, 3) := by decide +kernel
theorem d_PC_init_12 : decode M_PC_init.2.1 12 = .ok (.aload_n 0, 1) := by decide +kernel
theorem d_PC_init_13 : decode M_PC_init.2.1 13 = .ok (.bipush 32, 2) := by decide +kernel
theorem d_PC_init_15 : decode M_PC_init.2.1 15 = .ok (.putfield 15, 3) := by decide +kernel
theorem d_PC_init_18 : decode M_PC_init.2.1 18 = .ok (.return_, 1) := by decide +kernel
theorem d_SG_init_0 : decode M_SG_init.2.1 0 = .ok (.aload_n 0, 1) := by decide +kernel
theorem d_SG_init_1 : decode M_SG_init.2.1 1 = .ok (.invokespecial 3, 3) := by decide +kernel
theorem d_SG_init_4 : decode M_SG_init.2.1 4 = .ok (.aload_n 0, 1) := by decide +kernel
theorem d_SG_init_5 : decode M_SG_init.2.1 5 = .ok (.bipush 64, 2) := by decide +kernel
theorem d_SG_init_7 : decode M_SG_init.2.1 7 = .ok (.newarray .int, 2) := by decide +kernel
theorem d_SG_init_9 : decode M_SG_init.2.1 9 = .ok (.putfield 9, 3) := by decide +kernel
theorem d_SG_init_12 : decode M_SG_init.2.1 12 = .ok (.aload_n 0, 1) := by decide +kernel
theorem d_SG_init_13 : decode M_SG_init.2.1 13 = .ok (.new 15, 3) := by decide +kernel
theorem d_SG_init_16 : decode M_SG_init.2.1 16 = .ok (.dup, 1) := by decide +kernel
theorem d_SG_init_17 : decode M_SG_init.2.1 17 = .ok (.invokespecial 17, 3) := by decide +kernel
theorem d_SG_init_20 : decode M_SG_init.2.1 20 = .ok (.putfield 18, 3) := by decide +kernel
theorem d_SG_init_23 : decode M_SG_init.2.1 23 = .ok (.return_, 1) := by decide +kernel
theorem d_ED_init_0 : decode M_ED_init.2.1 0 = .ok (.aload_n 0, 1) := by decide +kernel
theorem d_ED_init_1 : decode M_ED_init.2.1 1 = .ok (.invokespecial 3, 3) := by decide +kernel
theorem d_ED_init_4 : decode M_ED_init.2.1 4 = .ok (.aload_n 0, 1) := by decide +kernel
theorem d_ED_init_5 : decode M_ED_init.2.1 5 = .ok (.bipush 18, 2) := by decide +kernel
theorem d_ED_init_7 : decode M_ED_init.2.1 7 = .ok (.newarray .int, 2) := by decide +kernel
theorem d_ED_init_9 : decode M_ED_init.2.1 9 = .ok (.putfield 9, 3) := by decide +kernel
theorem d_ED_init_12 : decode M_ED_init.2.1 12 = .ok (.return_, 1) := by decide +kernel
theorem d_PR_pic_0 : decode M_PR_pic.2.1 0 = .ok (.iload_n 1, 1) := by decide +kernel
theorem d_PR_pic_1 : decode M_PR_pic.2.1 1 = .ok (.bipush 32, 2) := by decide +kernel
theorem d_PR_pic_3 : decode M_PR_pic.2.1 3 = .ok (.if_icmp .lt 18, 3) := by decide +kernel
theorem d_PR_pic_6 : decode M_PR_pic.2.1 6 = .ok (.iload_n 1, 1) := by decide +kernel
theorem d_PR_pic_7 : decode M_PR_pic.2.1 7 = .ok (.bipush 126, 2) := by decide +kernel
theorem d_PR_pic_9 : decode M_PR_pic.2.1 9 = .ok (.if_icmp .gt 12, 3) := by decide +kernel
theorem d_PR_pic_12 : decode M_PR_pic.2.1 12 = .ok (.aload_n 0, 1) := by decide +kernel
theorem d_PR_pic_13 : decode M_PR_pic.2.1 13 = .ok (.getfield 37, 3) := by decide +kernel
theorem d_PR_pic_16 : decode M_PR_pic.2.1 16 = .ok (.bipush 24, 2) := by decide +kernel
theorem d_PR_pic_18 : decode M_PR_pic.2.1 18 = .ok (.if_icmp .lt 5, 3) := by decide +kernel
theorem d_PR_pic_21 : decode M_PR_pic.2.1 21 = .ok (.iconst 0, 1) := by decide +kernel
theorem d_PR_pic_22 : decode M_PR_pic.2.1 22 = .ok (.ireturn, 1) := by decide +kernel
theorem d_PR_pic_23 : decode M_PR_pic.2.1 23 = .ok (.aload_n 0, 1) := by decide +kernel
theorem d_PR_pic_24 : decode M_PR_pic.2.1 24 = .ok (.getfield 9, 3) := by decide +kernel
theorem d_PR_pic_27 : decode M_PR_pic.2.1 27 = .ok (.aload_n 0, 1) := by decide +kernel
theorem d_PR_pic_28 : decode M_PR_pic.2.1 28 = .ok (.getfield 37, 3) := by decide +kernel
theorem d_PR_pic_31 : decode M_PR_pic.2.1 31 = .ok (.iload_n 1, 1) := by decide +kernel
theorem d_PR_pic_32 : decode M_PR_pic.2.1 32 = .ok (.castore, 1) := by decide +kernel
theorem d_PR_pic_33 : decode M_PR_pic.2.1 33 = .ok (.aload_n 0, 1) := by decide +kernel
theorem d_PR_pic_34 : decode M_PR_pic.2.1 34 = .ok (.dup, 1) := by decide +kernel
theorem d_PR_pic_35 : decode M_PR_pic.2.1 35 = .ok (.getfield 37, 3) := by decide +kernel
theorem d_PR_pic_38 : decode M_PR_pic.2.1 38 = .ok (.iconst 1, 1) := by decide +kernel
theorem d_PR_pic_39 : decode M_PR_pic.2.1 39 = .ok (.iadd, 1) := by decide +kernel
theorem d_PR_pic_40 : decode M_PR_pic.2.1 40 = .ok (.putfield 37, 3) := by decide +kernel
theorem d_PR_pic_43 : decode M_PR_pic.2.1 43 = .ok (.iconst 1, 1) := by decide +kernel
theorem d_PR_pic_44 : decode M_PR_pic.2.1 44 = .ok (.ireturn, 1) := by decide +kernel
theorem d_PR_scrap_0 : decode M_PR_scrap.2.1 0 = .ok (.aload_n 0, 1) := by decide +kernel
theorem d_PR_scrap_1 : decode M_PR_scrap.2.1 1 = .ok (.iconst 0, 1) := by decide +kernel
theorem d_PR_scrap_2 : decode M_PR_scrap.2.1 2 = .ok (.putfield 37, 3) := by decide +kernel
theorem d_PR_scrap_5 : decode M_PR_scrap.2.1 5 = .ok (.return_, 1) := by decide +kernel
theorem d_PR_field_0 : decode M_PR_field.2.1 0 = .ok (.aload_n 0, 1) := by decide +kernel
theorem d_PR_field_1 : decode M_PR_field.2.1 1 = .ok (.getfield 16, 3) := by decide +kernel
theorem d_PR_field_4 : decode M_PR_field.2.1 4 = .ok (.aload_n 0, 1) := by decide +kernel
theorem d_PR_field_5 : decode M_PR_field.2.1 5 = .ok (.getfield 9, 3) := by decide +kernel
theorem d_PR_field_8 : decode M_PR_field.2.1 8 = .ok (.aload_n 0, 1) := by decide +kernel
theorem d_PR_field_9 : decode M_PR_field.2.1 9 = .ok (.getfield 37, 3) := by decide +kernel
theorem d_PR_field_12 : decode M_PR_field.2.1 12 = .ok (.invokevirtual 41, 3) := by decide +kernel
theorem d_PR_field_15 : decode M_PR_field.2.1 15 = .ok (.ifCond .ne 5, 3) := by decide +kernel
theorem d_PR_field_18 : decode M_PR_field.2.1 18 = .ok (.iconst (-1), 1) := by decide +kernel
theorem d_PR_field_19 : decode M_PR_field.2.1 19 = .ok (.ireturn, 1) := by decide +kernel
theorem d_PR_field_20 : decode M_PR_field.2.1 20 = .ok (.aload_n 0, 1) := by decide +kernel
theorem d_PR_field_21 : decode M_PR_field.2.1 21 = .ok (.getfield 16, 3) := by decide +kernel
theorem d_PR_field_24 : decode M_PR_field.2.1 24 = .ok (.iload_n 1, 1) := by decide +kernel
theorem d_PR_field_25 : decode M_PR_field.2.1 25 = .ok (.invokevirtual 45, 3) := by decide +kernel
theorem d_PR_field_28 : decode M_PR_field.2.1 28 = .ok (.ifCond .ne 6, 3) := by decide +kernel
theorem d_PR_field_31 : decode M_PR_field.2.1 31 = .ok (.bipush (-2), 2) := by decide +kernel
theorem d_PR_field_33 : decode M_PR_field.2.1 33 = .ok (.ireturn, 1) := by decide +kernel
theorem d_PR_field_34 : decode M_PR_field.2.1 34 = .ok (.aload_n 0, 1) := by decide +kernel
theorem d_PR_field_35 : decode M_PR_field.2.1 35 = .ok (.getfield 16, 3) := by decide +kernel
theorem d_PR_field_38 : decode M_PR_field.2.1 38 = .ok (.iload_n 1, 1) := by decide +kernel
theorem d_PR_field_39 : decode M_PR_field.2.1 39 = .ok (.invokevirtual 49, 3) := by decide +kernel
theorem d_PR_field_42 : decode M_PR_field.2.1 42 = .ok (.istore_n 3, 1) := by decide +kernel
theorem d_PR_field_43 : decode M_PR_field.2.1 43 = .ok (.iload_n 2, 1) := by decide +kernel
theorem d_PR_field_44 : decode M_PR_field.2.1 44 = .ok (.ifCond .lt 11, 3) := by decide +kernel
theorem d_PR_field_47 : decode M_PR_field.2.1 47 = .ok (.iload_n 2, 1) := by decide +kernel
theorem d_PR_field_48 : decode M_PR_field.2.1 48 = .ok (.bipush 64, 2) := by decide +kernel
theorem d_PR_field_50 : decode M_PR_field.2.1 50 = .ok (.iload_n 3, 1) := by decide +kernel
theorem d_PR_field_51 : decode M_PR_field.2.1 51 = .ok (.isub, 1) := by decide +kernel
theorem d_PR_field_52 : decode M_PR_field.2.1 52 = .ok (.if_icmp .le 6, 3) := by decide +kernel
theorem d_PR_field_55 : decode M_PR_field.2.1 55 = .ok (.bipush (-3), 2) := by decide +kernel
theorem d_PR_field_57 : decode M_PR_field.2.1 57 = .ok (.ireturn, 1) := by decide +kernel
theorem d_PR_field_58 : decode M_PR_field.2.1 58 = .ok (.aload_n 0, 1) := by decide +kernel
theorem d_PR_field_59 : decode M_PR_field.2.1 59 = .ok (.getfield 53, 3) := by decide +kernel
theorem d_PR_field_62 : decode M_PR_field.2.1 62 = .ok (.bipush 12, 2) := by decide +kernel
theorem d_PR_field_64 : decode M_PR_field.2.1 64 = .ok (.if_icmp .lt 6, 3) := by decide +kernel
theorem d_PR_field_67 : decode M_PR_field.2.1 67 = .ok (.bipush (-4), 2) := by decide +kernel
theorem d_PR_field_69 : decode M_PR_field.2.1 69 = .ok (.ireturn, 1) := by decide +kernel
theorem d_PR_field_70 : decode M_PR_field.2.1 70 = .ok (.aload_n 0, 1) := by decide +kernel
theorem d_PR_field_71 : decode M_PR_field.2.1 71 = .ok (.getfield 22, 3) := by decide +kernel
theorem d_PR_field_74 : decode M_PR_field.2.1 74 = .ok (.aload_n 0, 1) := by decide +kernel
theorem d_PR_field_75 : decode M_PR_field.2.1 75 = .ok (.getfield 53, 3) := by decide +kernel
theorem d_PR_field_78 : decode M_PR_field.2.1 78 = .ok (.new 20, 3) := by decide +kernel
theorem d_PR_field_81 : decode M_PR_field.2.1 81 = .ok (.dup, 1) := by decide +kernel
theorem d_PR_field_82 : decode M_PR_field.2.1 82 = .ok (.aload_n 0, 1) := by decide +kernel
theorem d_PR_field_83 : decode M_PR_field.2.1 83 = .ok (.getfield 16, 3) := by decide +kernel
theorem d_PR_field_86 : decode M_PR_field.2.1 86 = .ok (.iload_n 1, 1) := by decide +kernel
theorem d_PR_field_87 : decode M_PR_field.2.1 87 = .ok (.iload_n 2, 1) := by decide +kernel
theorem d_PR_field_88 : decode M_PR_field.2.1 88 = .ok (.iload_n 3, 1) := by decide +kernel
theorem d_PR_field_89 : decode M_PR_field.2.1 89 = .ok (.invokespecial 56, 3) := by decide +kernel
theorem d_PR_field_92 : decode M_PR_field.2.1 92 = .ok (.aastore, 1) := by decide +kernel
theorem d_PR_field_93 : decode M_PR_field.2.1 93 = .ok (.aload_n 0, 1) := by decide +kernel
theorem d_PR_field_94 : decode M_PR_field.2.1 94 = .ok (.dup, 1) := by decide +kernel
theorem d_PR_field_95 : decode M_PR_field.2.1 95 = .ok (.getfield 53, 3) := by decide +kernel
theorem d_PR_field_98 : decode M_PR_field.2.1 98 = .ok (.iconst 1, 1) := by decide +kernel
theorem d_PR_field_99 : decode M_PR_field.2.1 99 = .ok (.iadd, 1) := by decide +kernel
theorem d_PR_field_100 : decode M_PR_field.2.1 100 = .ok (.putfield 53, 3) := by decide +kernel
theorem d_PR_field_103 : decode M_PR_field.2.1 103 = .ok (.aload_n 0, 1) := by decide +kernel
theorem d_PR_field_104 : decode M_PR_field.2.1 104 = .ok (.new 13, 3) := by decide +kernel
theorem d_PR_field_107 : decode M_PR_field.2.1 107 = .ok (.dup, 1) := by decide +kernel
theorem d_PR_field_108 : decode M_PR_field.2.1 108 = .ok (.invokespecial 15, 3) := by decide +kernel
theorem d_PR_field_111 : decode M_PR_field.2.1 111 = .ok (.putfield 16, 3) := by decide +kernel
theorem d_PR_field_114 : decode M_PR_field.2.1 114 = .ok (.aload_n 0, 1) := by decide +kernel
theorem d_PR_field_115 : decode M_PR_field.2.1 115 = .ok (.iconst 0, 1) := by decide +kernel
theorem d_PR_field_116 : decode M_PR_field.2.1 116 = .ok (.putfield 37, 3) := by decide +kernel
theorem d_PR_field_119 : decode M_PR_field.2.1 119 = .ok (.aload_n 0, 1) := by decide +kernel
theorem d_PR_field_120 : decode M_PR_field.2.1 120 = .ok (.getfield 53, 3) := by decide +kernel
theorem d_PR_field_123 : decode M_PR_field.2.1 123 = .ok (.iconst 1, 1) := by decide +kernel
theorem d_PR_field_124 : decode M_PR_field.2.1 124 = .ok (.isub, 1) := by decide +kernel
theorem d_PR_field_125 : decode M_PR_field.2.1 125 = .ok (.ireturn, 1) := by decide +kernel
theorem d_PC_readDraft_0 : decode M_PC_readDraft.2.1 0 = .ok (.aload_n 0, 1) := by decide +kernel
theorem d_PC_readDraft_1 : decode M_PC_readDraft.2.1 1 = .ok (.aload_n 1, 1) := by decide +kernel
theorem d_PC_readDraft_2 : decode M_PC_readDraft.2.1 2 = .ok (.iload_n 2, 1) := by decide +kernel
theorem d_PC_readDraft_3 : decode M_PC_readDraft.2.1 3 = .ok (.invokevirtual 19, 3) := by decide +kernel
theorem d_PC_readDraft_6 : decode M_PC_readDraft.2.1 6 = .ok (.ifCond .eq 21, 3) := by decide +kernel
theorem d_PC_readDraft_9 : decode M_PC_readDraft.2.1 9 = .ok (.aload_n 0, 1) := by decide +kernel
theorem d_PC_readDraft_10 : decode M_PC_readDraft.2.1 10 = .ok (.invokevirtual 23, 3) := by decide +kernel
theorem d_PC_readDraft_13 : decode M_PC_readDraft.2.1 13 = .ok (.ifCond .ne 10, 3) := by decide +kernel
theorem d_PC_readDraft_16 : decode M_PC_readDraft.2.1 16 = .ok (.aload_n 0, 1) := by decide +kernel
theorem d_PC_readDraft_17 : decode M_PC_readDraft.2.1 17 = .ok (.invokevirtual 27, 3) := by decide +kernel
theorem d_PC_readDraft_20 : decode M_PC_readDraft.2.1 20 = .ok (.ifCond .eq 7, 3) := by decide +kernel
theorem d_PC_readDraft_23 : decode M_PC_readDraft.2.1 23 = .ok (.iconst 1, 1) := by decide +kernel
theorem d_PC_readDraft_24 : decode M_PC_readDraft.2.1 24 = .ok (.goto 4, 3) := by decide +kernel
theorem d_PC_readDraft_27 : decode M_PC_readDraft.2.1 27 = .ok (.iconst 0, 1) := by decide +kernel
theorem d_PC_readDraft_28 : decode M_PC_readDraft.2.1 28 = .ok (.ireturn, 1) := by decide +kernel
theorem d_PC_writeOut_0 : decode M_PC_writeOut.2.1 0 = .ok (.aload_n 0, 1) := by decide +kernel
theorem d_PC_writeOut_1 : decode M_PC_writeOut.2.1 1 = .ok (.iconst 0, 1) := by decide +kernel
theorem d_PC_writeOut_2 : decode M_PC_writeOut.2.1 2 = .ok (.putfield 37, 3) := by decide +kernel
theorem d_PC_writeOut_5 : decode M_PC_writeOut.2.1 5 = .ok (.iconst 0, 1) := by decide +kernel
theorem d_PC_writeOut_6 : decode M_PC_writeOut.2.1 6 = .ok (.istore_n 3, 1) := by decide +kernel
theorem d_PC_writeOut_7 : decode M_PC_writeOut.2.1 7 = .ok (.iload_n 3, 1) := by decide +kernel
theorem d_PC_writeOut_8 : decode M_PC_writeOut.2.1 8 = .ok (.iload_n 2, 1) := by decide +kernel
theorem d_PC_writeOut_9 : decode M_PC_writeOut.2.1 9 = .ok (.if_icmp .ge 55, 3) := by decide +kernel
theorem d_PC_writeOut_12 : decode M_PC_writeOut.2.1 12 = .ok (.aload_n 1, 1) := by decide +kernel
theorem d_PC_writeOut_13 : decode M_PC_writeOut.2.1 13 = .ok (.iload_n 2, 1) := by decide +kernel
theorem d_PC_writeOut_14 : decode M_PC_writeOut.2.1 14 = .ok (.iload_n 3, 1) := by decide +kernel
theorem d_PC_writeOut_15 : decode M_PC_writeOut.2.1 15 = .ok (.invokestatic 44, 3) := by decide +kernel
theorem d_PC_writeOut_18 : decode M_PC_writeOut.2.1 18 = .ok (.istore 4, 2) := by decide +kernel
theorem d_PC_writeOut_20 : decode M_PC_writeOut.2.1 20 = .ok (.iload 4, 2) := by decide +kernel
theorem d_PC_writeOut_22 : decode M_PC_writeOut.2.1 22 = .ok (.ifCond .ne 7, 3) := by decide +kernel
theorem d_PC_writeOut_25 : decode M_PC_writeOut.2.1 25 = .ok (.iconst 1, 1) := by decide +kernel
theorem d_PC_writeOut_26 : decode M_PC_writeOut.2.1 26 = .ok (.goto 10, 3) := by decide +kernel
theorem d_PC_writeOut_29 : decode M_PC_writeOut.2.1 29 = .ok (.aload_n 1, 1) := by decide +kernel
theorem d_PC_writeOut_30 : decode M_PC_writeOut.2.1 30 = .ok (.iload_n 3, 1) := by decide +kernel
theorem d_PC_writeOut_31 : decode M_PC_writeOut.2.1 31 = .ok (.iload 4, 2) := by decide +kernel
theorem d_PC_writeOut_33 : decode M_PC_writeOut.2.1 33 = .ok (.invokestatic 48, 3) := by decide +kernel
theorem d_PC_writeOut_36 : decode M_PC_writeOut.2.1 36 = .ok (.istore 5, 2) := by decide +kernel
theorem d_PC_writeOut_38 : decode M_PC_writeOut.2.1 38 = .ok (.aload_n 0, 1) := by decide +kernel
theorem d_PC_writeOut_39 : decode M_PC_writeOut.2.1 39 = .ok (.aload_n 1, 1) := by decide +kernel
theorem d_PC_writeOut_40 : decode M_PC_writeOut.2.1 40 = .ok (.iload_n 3, 1) := by decide +kernel
theorem d_PC_writeOut_41 : decode M_PC_writeOut.2.1 41 = .ok (.caload, 1) := by decide +kernel
theorem d_PC_writeOut_42 : decode M_PC_writeOut.2.1 42 = .ok (.iload 5, 2) := by decide +kernel
theorem d_PC_writeOut_44 : decode M_PC_writeOut.2.1 44 = .ok (.invokevirtual 51, 3) := by decide +kernel
theorem d_PC_writeOut_47 : decode M_PC_writeOut.2.1 47 = .ok (.ifCond .ne 5, 3) := by decide +kernel
theorem d_PC_writeOut_50 : decode M_PC_writeOut.2.1 50 = .ok (.iconst 0, 1) := by decide +kernel
theorem d_PC_writeOut_51 : decode M_PC_writeOut.2.1 51 = .ok (.ireturn, 1) := by decide +kernel
theorem d_PC_writeOut_52 : decode M_PC_writeOut.2.1 52 = .ok (.iload_n 3, 1) := by decide +kernel
theorem d_PC_writeOut_53 : decode M_PC_writeOut.2.1 53 = .ok (.iconst 1, 1) := by decide +kernel
theorem d_PC_writeOut_54 : decode M_PC_writeOut.2.1 54 = .ok (.iload 4, 2) := by decide +kernel
theorem d_PC_writeOut_56 : decode M_PC_writeOut.2.1 56 = .ok (.invokestatic 55, 3) := by decide +kernel
theorem d_PC_writeOut_59 : decode M_PC_writeOut.2.1 59 = .ok (.iadd, 1) := by decide +kernel
theorem d_PC_writeOut_60 : decode M_PC_writeOut.2.1 60 = .ok (.istore_n 3, 1) := by decide +kernel
theorem d_PC_writeOut_61 : decode M_PC_writeOut.2.1 61 = .ok (.goto (-54), 3) := by decide +kernel
theorem d_PC_writeOut_64 : decode M_PC_writeOut.2.1 64 = .ok (.aload_n 0, 1) := by decide +kernel
theorem d_PC_writeOut_65 : decode M_PC_writeOut.2.1 65 = .ok (.getfield 37, 3) := by decide +kernel
theorem d_PC_writeOut_68 : decode M_PC_writeOut.2.1 68 = .ok (.ifCond .le 7, 3) := by decide +kernel
theorem d_PC_writeOut_71 : decode M_PC_writeOut.2.1 71 = .ok (.iconst 1, 1) := by decide +kernel
theorem d_PC_writeOut_72 : decode M_PC_writeOut.2.1 72 = .ok (.goto 4, 3) := by decide +kernel
theorem d_PC_writeOut_75 : decode M_PC_writeOut.2.1 75 = .ok (.iconst 0, 1) := by decide +kernel
theorem d_PC_writeOut_76 : decode M_PC_writeOut.2.1 76 = .ok (.ireturn, 1) := by decide +kernel
theorem d_PC_repetitionLength_0 : decode M_PC_repetitionLength.2.1 0 = .ok (.iload_n 2, 1) := by decide +kernel
theorem d_PC_repetitionLength_1 : decode M_PC_repetitionLength.2.1 1 = .ok (.iconst 3, 1) := by decide +kernel
theorem d_PC_repetitionLength_2 : decode M_PC_repetitionLength.2.1 2 = .ok (.iadd, 1) := by decide +kernel
theorem d_PC_repetitionLength_3 : decode M_PC_repetitionLength.2.1 3 = .ok (.iload_n 1, 1) := by decide +kernel
theorem d_PC_repetitionLength_4 : decode M_PC_repetitionLength.2.1 4 = .ok (.if_icmp .ge 28, 3) := by decide +kernel
theorem d_PC_repetitionLength_7 : decode M_PC_repetitionLength.2.1 7 = .ok (.ldc 61, 2) := by decide +kernel
theorem d_PC_repetitionLength_9 : decode M_PC_repetitionLength.2.1 9 = .ok (.aload_n 0, 1) := by decide +kernel
theorem d_PC_repetitionLength_10 : decode M_PC_repetitionLength.2.1 10 = .ok (.iload_n 2, 1) := by decide +kernel
theorem d_PC_repetitionLength_11 : decode M_PC_repetitionLength.2.1 11 = .ok (.caload, 1) := by decide +kernel
theorem d_PC_repetitionLength_12 : decode M_PC_repetitionLength.2.1 12 = .ok (.invokestatic 63, 3) := by decide +kernel
theorem d_PC_repetitionLength_15 : decode M_PC_repetitionLength.2.1 15 = .ok (.ifCond .eq 17, 3) := by decide +kernel
theorem d_PC_repetitionLength_18 : decode M_PC_repetitionLength.2.1 18 = .ok (.aload_n 0, 1) := by decide +kernel
theorem d_PC_repetitionLength_19 : decode M_PC_repetitionLength.2.1 19 = .ok (.iload_n 2, 1) := by decide +kernel
theorem d_PC_repetitionLength_20 : decode M_PC_repetitionLength.2.1 20 = .ok (.iconst 1, 1) := by decide +kernel
theorem d_PC_repetitionLength_21 : decode M_PC_repetitionLength.2.1 21 = .ok (.iadd, 1) := by decide +kernel
theorem d_PC_repetitionLength_22 : decode M_PC_repetitionLength.2.1 22 = .ok (.caload, 1) := by decide +kernel
theorem d_PC_repetitionLength_23 : decode M_PC_repetitionLength.2.1 23 = .ok (.bipush 40, 2) := by decide +kernel
theorem d_PC_repetitionLength_25 : decode M_PC_repetitionLength.2.1 25 = .ok (.if_icmp .ne 7, 3) := by decide +kernel
theorem d_PC_repetitionLength_28 : decode M_PC_repetitionLength.2.1 28 = .ok (.iconst 1, 1) := by decide +kernel
theorem d_PC_repetitionLength_29 : decode M_PC_repetitionLength.2.1 29 = .ok (.goto 4, 3) := by decide +kernel
theorem d_PC_repetitionLength_32 : decode M_PC_repetitionLength.2.1 32 = .ok (.iconst 0, 1) := by decide +kernel
theorem d_PC_repetitionLength_33 : decode M_PC_repetitionLength.2.1 33 = .ok (.istore_n 3, 1) := by decide +kernel
theorem d_PC_repetitionLength_34 : decode M_PC_repetitionLength.2.1 34 = .ok (.iload_n 3, 1) := by decide +kernel
theorem d_PC_repetitionLength_35 : decode M_PC_repetitionLength.2.1 35 = .ok (.ifCond .eq 14, 3) := by decide +kernel
theorem d_PC_repetitionLength_38 : decode M_PC_repetitionLength.2.1 38 = .ok (.aload_n 0, 1) := by decide +kernel
theorem d_PC_repetitionLength_39 : decode M_PC_repetitionLength.2.1 39 = .ok (.iload_n 2, 1) := by decide +kernel
theorem d_PC_repetitionLength_40 : decode M_PC_repetitionLength.2.1 40 = .ok (.iconst 2, 1) := by decide +kernel
theorem d_PC_repetitionLength_41 : decode M_PC_repetitionLength.2.1 41 = .ok (.iadd, 1) := by decide +kernel
theorem d_PC_repetitionLength_42 : decode M_PC_repetitionLength.2.1 42 = .ok (.caload, 1) := by decide +kernel
theorem d_PC_repetitionLength_43 : decode M_PC_repetitionLength.2.1 43 = .ok (.invokestatic 67, 3) := by decide +kernel
theorem d_PC_repetitionLength_46 : decode M_PC_repetitionLength.2.1 46 = .ok (.ifCond .ne 5, 3) := by decide +kernel
theorem d_PC_repetitionLength_49 : decode M_PC_repetitionLength.2.1 49 = .ok (.iconst 0, 1) := by decide +kernel
theorem d_PC_repetitionLength_50 : decode M_PC_repetitionLength.2.1 50 = .ok (.ireturn, 1) := by decide +kernel
theorem d_PC_repetitionLength_51 : decode M_PC_repetitionLength.2.1 51 = .ok (.aload_n 0, 1) := by decide +kernel
theorem d_PC_repetitionLength_52 : decode M_PC_repetitionLength.2.1 52 = .ok (.iload_n 2, 1) := by decide +kernel
theorem d_PC_repetitionLength_53 : decode M_PC_repetitionLength.2.1 53 = .ok (.iconst 3, 1) := by decide +kernel
theorem d_PC_repetitionLength_54 : decode M_PC_repetitionLength.2.1 54 = .ok (.iadd, 1) := by decide +kernel
theorem d_PC_repetitionLength_55 : decode M_PC_repetitionLength.2.1 55 = .ok (.caload, 1) := by decide +kernel
theorem d_PC_repetitionLength_56 : decode M_PC_repetitionLength.2.1 56 = .ok (.bipush 41, 2) := by decide +kernel
theorem d_PC_repetitionLength_58 : decode M_PC_repetitionLength.2.1 58 = .ok (.if_icmp .ne 5, 3) := by decide +kernel
theorem d_PC_repetitionLength_61 : decode M_PC_repetitionLength.2.1 61 = .ok (.iconst 4, 1) := by decide +kernel
theorem d_PC_repetitionLength_62 : decode M_PC_repetitionLength.2.1 62 = .ok (.ireturn, 1) := by decide +kernel
theorem d_PC_repetitionLength_63 : decode M_PC_repetitionLength.2.1 63 = .ok (.iload_n 2, 1) := by decide +kernel
theorem d_PC_repetitionLength_64 : decode M_PC_repetitionLength.2.1 64 = .ok (.iconst 4, 1) := by decide +kernel
theorem d_PC_repetitionLength_65 : decode M_PC_repetitionLength.2.1 65 = .ok (.iadd, 1) := by decide +kernel
theorem d_PC_repetitionLength_66 : decode M_PC_repetitionLength.2.1 66 = .ok (.iload_n 1, 1) := by decide +kernel
theorem d_PC_repetitionLength_67 : decode M_PC_repetitionLength.2.1 67 = .ok (.if_icmp .ge 28, 3) := by decide +kernel
theorem d_PC_repetitionLength_70 : decode M_PC_repetitionLength.2.1 70 = .ok (.aload_n 0, 1) := by decide +kernel
theorem d_PC_repetitionLength_71 : decode M_PC_repetitionLength.2.1 71 = .ok (.iload_n 2, 1) := by decide +kernel
theorem d_PC_repetitionLength_72 : decode M_PC_repetitionLength.2.1 72 = .ok (.iconst 3, 1) := by decide +kernel
theorem d_PC_repetitionLength_73 : decode M_PC_repetitionLength.2.1 73 = .ok (.iadd, 1) := by decide +kernel
theorem d_PC_repetitionLength_74 : decode M_PC_repetitionLength.2.1 74 = .ok (.caload, 1) := by decide +kernel
theorem d_PC_repetitionLength_75 : decode M_PC_repetitionLength.2.1 75 = .ok (.invokestatic 67, 3) := by decide +kernel
theorem d_PC_repetitionLength_78 : decode M_PC_repetitionLength.2.1 78 = .ok (.ifCond .eq 17, 3) := by decide +kernel
theorem d_PC_repetitionLength_81 : decode M_PC_repetitionLength.2.1 81 = .ok (.aload_n 0, 1) := by decide +kernel
theorem d_PC_repetitionLength_82 : decode M_PC_repetitionLength.2.1 82 = .ok (.iload_n 2, 1) := by decide +kernel
theorem d_PC_repetitionLength_83 : decode M_PC_repetitionLength.2.1 83 = .ok (.iconst 4, 1) := by decide +kernel
theorem d_PC_repetitionLength_84 : decode M_PC_repetitionLength.2.1 84 = .ok (.iadd, 1) := by decide +kernel
theorem d_PC_repetitionLength_85 : decode M_PC_repetitionLength.2.1 85 = .ok (.caload, 1) := by decide +kernel
theorem d_PC_repetitionLength_86 : decode M_PC_repetitionLength.2.1 86 = .ok (.bipush 41, 2) := by decide +kernel
theorem d_PC_repetitionLength_88 : decode M_PC_repetitionLength.2.1 88 = .ok (.if_icmp .ne 7, 3) := by decide +kernel
theorem d_PC_repetitionLength_91 : decode M_PC_repetitionLength.2.1 91 = .ok (.iconst 5, 1) := by decide +kernel
theorem d_PC_repetitionLength_92 : decode M_PC_repetitionLength.2.1 92 = .ok (.goto 4, 3) := by decide +kernel
theorem d_PC_repetitionLength_95 : decode M_PC_repetitionLength.2.1 95 = .ok (.iconst 0, 1) := by decide +kernel
theorem d_PC_repetitionLength_96 : decode M_PC_repetitionLength.2.1 96 = .ok (.ireturn, 1) := by decide +kernel
theorem d_PC_isOneOf_0 : decode M_PC_isOneOf.2.1 0 = .ok (.aload_n 0, 1) := by decide +kernel
theorem d_PC_isOneOf_1 : decode M_PC_isOneOf.2.1 1 = .ok (.iload_n 1, 1) := by decide +kernel
theorem d_PC_isOneOf_2 : decode M_PC_isOneOf.2.1 2 = .ok (.invokevirtual 108, 3) := by decide +kernel
theorem d_PC_isOneOf_5 : decode M_PC_isOneOf.2.1 5 = .ok (.ifCond .lt 7, 3) := by decide +kernel
theorem d_PC_isOneOf_8 : decode M_PC_isOneOf.2.1 8 = .ok (.iconst 1, 1) := by decide +kernel
theorem d_PC_isOneOf_9 : decode M_PC_isOneOf.2.1 9 = .ok (.goto 4, 3) := by decide +kernel
theorem d_PC_isOneOf_12 : decode M_PC_isOneOf.2.1 12 = .ok (.iconst 0, 1) := by decide +kernel
theorem d_PC_isOneOf_13 : decode M_PC_isOneOf.2.1 13 = .ok (.ireturn, 1) := by decide +kernel
theorem d_ST_indexOf_I_0 : decode M_ST_indexOf_I.2.1 0 = .ok (.aload_n 0, 1) := by decide +kernel
theorem d_ST_indexOf_I_1 : decode M_ST_indexOf_I.2.1 1 = .ok (.iload_n 1, 1) := by decide +kernel
theorem d_ST_indexOf_I_2 : decode M_ST_indexOf_I.2.1 2 = .ok (.iconst 0, 1) := by decide +kernel
theorem d_ST_indexOf_I_3 : decode M_ST_indexOf_I.2.1 3 = .ok (.invokevirtual 633, 3) := by decide +kernel
theorem d_ST_indexOf_I_6 : decode M_ST_indexOf_I.2.1 6 = .ok (.ireturn, 1) := by decide +kernel
theorem d_ST_indexOf_II_0 : decode M_ST_indexOf_II.2.1 0 = .ok (.aload_n 0, 1) := by decide +kernel
theorem d_ST_indexOf_II_1 : decode M_ST_indexOf_II.2.1 1 = .ok (.invokevirtual 492, 3) := by decide +kernel
theorem d_ST_indexOf_II_4 : decode M_ST_indexOf_II.2.1 4 = .ok (.ifCond .eq 19, 3) := by decide +kernel
theorem d_ST_indexOf_II_7 : decode M_ST_indexOf_II.2.1 7 = .ok (.aload_n 0, 1) := by decide +kernel
theorem d_ST_indexOf_II_8 : decode M_ST_indexOf_II.2.1 8 = .ok (.getfield 9, 3) := by decide +kernel
theorem d_ST_indexOf_II_11 : decode M_ST_indexOf_II.2.1 11 = .ok (.iload_n 1, 1) := by decide +kernel
theorem d_ST_indexOf_II_12 : decode M_ST_indexOf_II.2.1 12 = .ok (.iload_n 2, 1) := by decide +kernel
theorem d_ST_indexOf_II_13 : decode M_ST_indexOf_II.2.1 13 = .ok (.aload_n 0, 1) := by decide +kernel
theorem d_ST_indexOf_II_14 : decode M_ST_indexOf_II.2.1 14 = .ok (.invokevirtual 505, 3) := by decide +kernel
theorem d_ST_indexOf_II_17 : decode M_ST_indexOf_II.2.1 17 = .ok (.invokestatic 637, 3) := by decide +kernel
theorem d_ST_indexOf_II_20 : decode M_ST_indexOf_II.2.1 20 = .ok (.goto 16, 3) := by decide +kernel
theorem d_ST_indexOf_II_23 : decode M_ST_indexOf_II.2.1 23 = .ok (.aload_n 0, 1) := by decide +kernel
theorem d_ST_indexOf_II_24 : decode M_ST_indexOf_II.2.1 24 = .ok (.getfield 9, 3) := by decide +kernel
theorem d_ST_indexOf_II_27 : decode M_ST_indexOf_II.2.1 27 = .ok (.iload_n 1, 1) := by decide +kernel
theorem d_ST_indexOf_II_28 : decode M_ST_indexOf_II.2.1 28 = .ok (.iload_n 2, 1) := by decide +kernel
theorem d_ST_indexOf_II_29 : decode M_ST_indexOf_II.2.1 29 = .ok (.aload_n 0, 1) := by decide +kernel
theorem d_ST_indexOf_II_30 : decode M_ST_indexOf_II.2.1 30 = .ok (.invokevirtual 505, 3) := by decide +kernel
theorem d_ST_indexOf_II_33 : decode M_ST_indexOf_II.2.1 33 = .ok (.invokestatic 640, 3) := by decide +kernel
theorem d_ST_indexOf_II_36 : decode M_ST_indexOf_II.2.1 36 = .ok (.ireturn, 1) := by decide +kernel
theorem d_ST_isLatin1_0 : decode M_ST_isLatin1.2.1 0 = .ok (.getstatic 38, 3) := by decide +kernel
theorem d_ST_isLatin1_3 : decode M_ST_isLatin1.2.1 3 = .ok (.ifCond .eq 14, 3) := by decide +kernel
theorem d_ST_isLatin1_6 : decode M_ST_isLatin1.2.1 6 = .ok (.aload_n 0, 1) := by decide +kernel
theorem d_ST_isLatin1_7 : decode M_ST_isLatin1.2.1 7 = .ok (.getfield 15, 3) := by decide +kernel
theorem d_ST_isLatin1_10 : decode M_ST_isLatin1.2.1 10 = .ok (.ifCond .ne 7, 3) := by decide +kernel
theorem d_ST_isLatin1_13 : decode M_ST_isLatin1.2.1 13 = .ok (.iconst 1, 1) := by decide +kernel
theorem d_ST_isLatin1_14 : decode M_ST_isLatin1.2.1 14 = .ok (.goto 4, 3) := by decide +kernel
theorem d_ST_isLatin1_17 : decode M_ST_isLatin1.2.1 17 = .ok (.iconst 0, 1) := by decide +kernel
theorem d_ST_isLatin1_18 : decode M_ST_isLatin1.2.1 18 = .ok (.ireturn, 1) := by decide +kernel
theorem d_ST_length_0 : decode M_ST_length.2.1 0 = .ok (.aload_n 0, 1) := by decide +kernel
theorem d_ST_length_1 : decode M_ST_length.2.1 1 = .ok (.getfield 9, 3) := by decide +kernel
theorem d_ST_length_4 : decode M_ST_length.2.1 4 = .ok (.arraylength, 1) := by decide +kernel
theorem d_ST_length_5 : decode M_ST_length.2.1 5 = .ok (.aload_n 0, 1) := by decide +kernel
theorem d_ST_length_6 : decode M_ST_length.2.1 6 = .ok (.invokevirtual 335, 3) := by decide +kernel
theorem d_ST_length_9 : decode M_ST_length.2.1 9 = .ok (.ishr, 1) := by decide +kernel
theorem d_ST_length_10 : decode M_ST_length.2.1 10 = .ok (.ireturn, 1) := by decide +kernel
theorem d_ST_coder_0 : decode M_ST_coder.2.1 0 = .ok (.getstatic 38, 3) := by decide +kernel
theorem d_ST_coder_3 : decode M_ST_coder.2.1 3 = .ok (.ifCond .eq 10, 3) := by decide +kernel
theorem d_ST_coder_6 : decode M_ST_coder.2.1 6 = .ok (.aload_n 0, 1) := by decide +kernel
theorem d_ST_coder_7 : decode M_ST_coder.2.1 7 = .ok (.getfield 15, 3) := by decide +kernel
theorem d_ST_coder_10 : decode M_ST_coder.2.1 10 = .ok (.goto 4, 3) := by decide +kernel
theorem d_ST_coder_13 : decode M_ST_coder.2.1 13 = .ok (.iconst 1, 1) := by decide +kernel
theorem d_ST_coder_14 : decode M_ST_coder.2.1 14 = .ok (.ireturn, 1) := by decide +kernel
theorem d_L1_indexOf_0 : decode M_L1_indexOf.2.1 0 = .ok (.iload_n 1, 1) := by decide +kernel
theorem d_L1_indexOf_1 : decode M_L1_indexOf.2.1 1 = .ok (.invokestatic 88, 3) := by decide +kernel
theorem d_L1_indexOf_4 : decode M_L1_indexOf.2.1 4 = .ok (.ifCond .ne 5, 3) := by decide +kernel
theorem d_L1_indexOf_7 : decode M_L1_indexOf.2.1 7 = .ok (.iconst (-1), 1) := by decide +kernel
theorem d_L1_indexOf_8 : decode M_L1_indexOf.2.1 8 = .ok (.ireturn, 1) := by decide +kernel
theorem d_L1_indexOf_9 : decode M_L1_indexOf.2.1 9 = .ok (.iload_n 2, 1) := by decide +kernel
theorem d_L1_indexOf_10 : decode M_L1_indexOf.2.1 10 = .ok (.iconst 0, 1) := by decide +kernel
theorem d_L1_indexOf_11 : decode M_L1_indexOf.2.1 11 = .ok (.invokestatic 92, 3) := by decide +kernel
theorem d_L1_indexOf_14 : decode M_L1_indexOf.2.1 14 = .ok (.istore_n 2, 1) := by decide +kernel
theorem d_L1_indexOf_15 : decode M_L1_indexOf.2.1 15 = .ok (.iload_n 3, 1) := by decide +kernel
theorem d_L1_indexOf_16 : decode M_L1_indexOf.2.1 16 = .ok (.aload_n 0, 1) := by decide +kernel
theorem d_L1_indexOf_17 : decode M_L1_indexOf.2.1 17 = .ok (.arraylength, 1) := by decide +kernel
theorem d_L1_indexOf_18 : decode M_L1_indexOf.2.1 18 = .ok (.invokestatic 38, 3) := by decide +kernel
theorem d_L1_indexOf_21 : decode M_L1_indexOf.2.1 21 = .ok (.istore_n 3, 1) := by decide +kernel
theorem d_L1_indexOf_22 : decode M_L1_indexOf.2.1 22 = .ok (.iload_n 2, 1) := by decide +kernel
theorem d_L1_indexOf_23 : decode M_L1_indexOf.2.1 23 = .ok (.iload_n 3, 1) := by decide +kernel
theorem d_L1_indexOf_24 : decode M_L1_indexOf.2.1 24 = .ok (.if_icmp .lt 5, 3) := by decide +kernel
theorem d_L1_indexOf_27 : decode M_L1_indexOf.2.1 27 = .ok (.iconst (-1), 1) := by decide +kernel
theorem d_L1_indexOf_28 : decode M_L1_indexOf.2.1 28 = .ok (.ireturn, 1) := by decide +kernel
theorem d_L1_indexOf_29 : decode M_L1_indexOf.2.1 29 = .ok (.aload_n 0, 1) := by decide +kernel
theorem d_L1_indexOf_30 : decode M_L1_indexOf.2.1 30 = .ok (.iload_n 1, 1) := by decide +kernel
theorem d_L1_indexOf_31 : decode M_L1_indexOf.2.1 31 = .ok (.iload_n 2, 1) := by decide +kernel
theorem d_L1_indexOf_32 : decode M_L1_indexOf.2.1 32 = .ok (.iload_n 3, 1) := by decide +kernel
theorem d_L1_indexOf_33 : decode M_L1_indexOf.2.1 33 = .ok (.invokestatic 95, 3) := by decide +kernel
theorem d_L1_indexOf_36 : decode M_L1_indexOf.2.1 36 = .ok (.ireturn, 1) := by decide +kernel
theorem d_L1_canEncode_0 : decode M_L1_canEncode.2.1 0 = .ok (.iload_n 0, 1) := by decide +kernel
theorem d_L1_canEncode_1 : decode M_L1_canEncode.2.1 1 = .ok (.ifCond .lt 14, 3) := by decide +kernel
theorem d_L1_canEncode_4 : decode M_L1_canEncode.2.1 4 = .ok (.iload_n 0, 1) := by decide +kernel
theorem d_L1_canEncode_5 : decode M_L1_canEncode.2.1 5 = .ok (.sipush 255, 3) := by decide +kernel
theorem d_L1_canEncode_8 : decode M_L1_canEncode.2.1 8 = .ok (.if_icmp .gt 7, 3) := by decide +kernel
theorem d_L1_canEncode_11 : decode M_L1_canEncode.2.1 11 = .ok (.iconst 1, 1) := by decide +kernel
theorem d_L1_canEncode_12 : decode M_L1_canEncode.2.1 12 = .ok (.goto 4, 3) := by decide +kernel
theorem d_L1_canEncode_15 : decode M_L1_canEncode.2.1 15 = .ok (.iconst 0, 1) := by decide +kernel
theorem d_L1_canEncode_16 : decode M_L1_canEncode.2.1 16 = .ok (.ireturn, 1) := by decide +kernel
theorem d_MA_max_0 : decode M_MA_max.2.1 0 = .ok (.iload_n 0, 1) := by decide +kernel
theorem d_MA_max_1 : decode M_MA_max.2.1 1 = .ok (.iload_n 1, 1) := by decide +kernel
theorem d_MA_max_2 : decode M_MA_max.2.1 2 = .ok (.if_icmp .lt 7, 3) := by decide +kernel
theorem d_MA_max_5 : decode M_MA_max.2.1 5 = .ok (.iload_n 0, 1) := by decide +kernel
theorem d_MA_max_6 : decode M_MA_max.2.1 6 = .ok (.goto 4, 3) := by decide +kernel
theorem d_MA_max_9 : decode M_MA_max.2.1 9 = .ok (.iload_n 1, 1) := by decide +kernel
theorem d_MA_max_10 : decode M_MA_max.2.1 10 = .ok (.ireturn, 1) := by decide +kernel
theorem d_MA_min_0 : decode M_MA_min.2.1 0 = .ok (.iload_n 0, 1) := by decide +kernel
theorem d_MA_min_1 : decode M_MA_min.2.1 1 = .ok (.iload_n 1, 1) := by decide +kernel
theorem d_MA_min_2 : decode M_MA_min.2.1 2 = .ok (.if_icmp .gt 7, 3) := by decide +kernel
theorem d_MA_min_5 : decode M_MA_min.2.1 5 = .ok (.iload_n 0, 1) := by decide +kernel
theorem d_MA_min_6 : decode M_MA_min.2.1 6 = .ok (.goto 4, 3) := by decide +kernel
theorem d_MA_min_9 : decode M_MA_min.2.1 9 = .ok (.iload_n 1, 1) := by decide +kernel
theorem d_MA_min_10 : decode M_MA_min.2.1 10 = .ok (.ireturn, 1) := by decide +kernel
theorem d_L1_indexOfChar_0 : decode M_L1_indexOfChar.2.1 0 = .ok (.iload_n 1, 1) := by decide +kernel
theorem d_L1_indexOfChar_1 : decode M_L1_indexOfChar.2.1 1 = .ok (.i2b, 1) := by decide +kernel
theorem d_L1_indexOfChar_2 : decode M_L1_indexOfChar.2.1 2 = .ok (.istore 4, 2) := by decide +kernel
theorem d_L1_indexOfChar_4 : decode M_L1_indexOfChar.2.1 4 = .ok (.iload_n 2, 1) := by decide +kernel
theorem d_L1_indexOfChar_5 : decode M_L1_indexOfChar.2.1 5 = .ok (.istore 5, 2) := by decide +kernel
theorem d_L1_indexOfChar_7 : decode M_L1_indexOfChar.2.1 7 = .ok (.iload 5, 2) := by decide +kernel
theorem d_L1_indexOfChar_9 : decode M_L1_indexOfChar.2.1 9 = .ok (.iload_n 3, 1) := by decide +kernel
theorem d_L1_indexOfChar_10 : decode M_L1_indexOfChar.2.1 10 = .ok (.if_icmp .ge 21, 3) := by decide +kernel
theorem d_L1_indexOfChar_13 : decode M_L1_indexOfChar.2.1 13 = .ok (.aload_n 0, 1) := by decide +kernel
theorem d_L1_indexOfChar_14 : decode M_L1_indexOfChar.2.1 14 = .ok (.iload 5, 2) := by decide +kernel
theorem d_L1_indexOfChar_16 : decode M_L1_indexOfChar.2.1 16 = .ok (.baload, 1) := by decide +kernel
theorem d_L1_indexOfChar_17 : decode M_L1_indexOfChar.2.1 17 = .ok (.iload 4, 2) := by decide +kernel
theorem d_L1_indexOfChar_19 : decode M_L1_indexOfChar.2.1 19 = .ok (.if_icmp .ne 6, 3) := by decide +kernel
theorem d_L1_indexOfChar_22 : decode M_L1_indexOfChar.2.1 22 = .ok (.iload 5, 2) := by decide +kernel
theorem d_L1_indexOfChar_24 : decode M_L1_indexOfChar.2.1 24 = .ok (.ireturn, 1) := by decide +kernel
theorem d_L1_indexOfChar_25 : decode M_L1_indexOfChar.2.1 25 = .ok (.iinc 5 1, 3) := by decide +kernel
theorem d_L1_indexOfChar_28 : decode M_L1_indexOfChar.2.1 28 = .ok (.goto (-21), 3) := by decide +kernel
theorem d_L1_indexOfChar_31 : decode M_L1_indexOfChar.2.1 31 = .ok (.iconst (-1), 1) := by decide +kernel
theorem d_L1_indexOfChar_32 : decode M_L1_indexOfChar.2.1 32 = .ok (.ireturn, 1) := by decide +kernel
theorem d_ST_checkBoundsBeginEnd_0 : decode M_ST_checkBoundsBeginEnd.2.1 0 = .ok (.iload_n 0, 1) := by decide +kernel
theorem d_ST_checkBoundsBeginEnd_1 : decode M_ST_checkBoundsBeginEnd.2.1 1 = .ok (.iload_n 1, 1) := by decide +kernel
theorem d_ST_checkBoundsBeginEnd_2 : decode M_ST_checkBoundsBeginEnd.2.1 2 = .ok (.iload_n 2, 1) := by decide +kernel
theorem d_ST_checkBoundsBeginEnd_3 : decode M_ST_checkBoundsBeginEnd.2.1 3 = .ok (.getstatic 1053, 3) := by decide +kernel
theorem d_ST_checkBoundsBeginEnd_6 : decode M_ST_checkBoundsBeginEnd.2.1 6 = .ok (.invokestatic 1062, 3) := by decide +kernel
theorem d_ST_checkBoundsBeginEnd_9 : decode M_ST_checkBoundsBeginEnd.2.1 9 = .ok (.pop, 1) := by decide +kernel
theorem d_ST_checkBoundsBeginEnd_10 : decode M_ST_checkBoundsBeginEnd.2.1 10 = .ok (.return_, 1) := by decide +kernel
theorem d_PC_isDigit_0 : decode M_PC_isDigit.2.1 0 = .ok (.iload_n 0, 1) := by decide +kernel
theorem d_PC_isDigit_1 : decode M_PC_isDigit.2.1 1 = .ok (.bipush 48, 2) := by decide +kernel
theorem d_PC_isDigit_3 : decode M_PC_isDigit.2.1 3 = .ok (.if_icmp .lt 13, 3) := by decide +kernel
theorem d_PC_isDigit_6 : decode M_PC_isDigit.2.1 6 = .ok (.iload_n 0, 1) := by decide +kernel
theorem d_PC_isDigit_7 : decode M_PC_isDigit.2.1 7 = .ok (.bipush 57, 2) := by decide +kernel
theorem d_PC_isDigit_9 : decode M_PC_isDigit.2.1 9 = .ok (.if_icmp .gt 7, 3) := by decide +kernel
theorem d_PC_isDigit_12 : decode M_PC_isDigit.2.1 12 = .ok (.iconst 1, 1) := by decide +kernel
theorem d_PC_isDigit_13 : decode M_PC_isDigit.2.1 13 = .ok (.goto 4, 3) := by decide +kernel
theorem d_PC_isDigit_16 : decode M_PC_isDigit.2.1 16 = .ok (.iconst 0, 1) := by decide +kernel
theorem d_PC_isDigit_17 : decode M_PC_isDigit.2.1 17 = .ok (.ireturn, 1) := by decide +kernel
theorem d_PC_repetitions_0 : decode M_PC_repetitions.2.1 0 = .ok (.aload_n 0, 1) := by decide +kernel
theorem d_PC_repetitions_1 : decode M_PC_repetitions.2.1 1 = .ok (.iload_n 1, 1) := by decide +kernel
theorem d_PC_repetitions_2 : decode M_PC_repetitions.2.1 2 = .ok (.iconst 2, 1) := by decide +kernel
theorem d_PC_repetitions_3 : decode M_PC_repetitions.2.1 3 = .ok (.iadd, 1) := by decide +kernel
theorem d_PC_repetitions_4 : decode M_PC_repetitions.2.1 4 = .ok (.caload, 1) := by decide +kernel
theorem d_PC_repetitions_5 : decode M_PC_repetitions.2.1 5 = .ok (.bipush 48, 2) := by decide +kernel
theorem d_PC_repetitions_7 : decode M_PC_repetitions.2.1 7 = .ok (.isub, 1) := by decide +kernel
theorem d_PC_repetitions_8 : decode M_PC_repetitions.2.1 8 = .ok (.istore_n 3, 1) := by decide +kernel
theorem d_PC_repetitions_9 : decode M_PC_repetitions.2.1 9 = .ok (.iload_n 2, 1) := by decide +kernel
theorem d_PC_repetitions_10 : decode M_PC_repetitions.2.1 10 = .ok (.iconst 4, 1) := by decide +kernel
theorem d_PC_repetitions_11 : decode M_PC_repetitions.2.1 11 = .ok (.if_icmp .ne 7, 3) := by decide +kernel
theorem d_PC_repetitions_14 : decode M_PC_repetitions.2.1 14 = .ok (.iload_n 3, 1) := by decide +kernel
theorem d_PC_repetitions_15 : decode M_PC_repetitions.2.1 15 = .ok (.goto 16, 3) := by decide +kernel
theorem d_PC_repetitions_18 : decode M_PC_repetitions.2.1 18 = .ok (.bipush 10, 2) := by decide +kernel
theorem d_PC_repetitions_20 : decode M_PC_repetitions.2.1 20 = .ok (.iload_n 3, 1) := by decide +kernel
theorem d_PC_repetitions_21 : decode M_PC_repetitions.2.1 21 = .ok (.imul, 1) := by decide +kernel
theorem d_PC_repetitions_22 : decode M_PC_repetitions.2.1 22 = .ok (.aload_n 0, 1) := by decide +kernel
theorem d_PC_repetitions_23 : decode M_PC_repetitions.2.1 23 = .ok (.iload_n 1, 1) := by decide +kernel
theorem d_PC_repetitions_24 : decode M_PC_repetitions.2.1 24 = .ok (.iconst 3, 1) := by decide +kernel
theorem d_PC_repetitions_25 : decode M_PC_repetitions.2.1 25 = .ok (.iadd, 1) := by decide +kernel
theorem d_PC_repetitions_26 : decode M_PC_repetitions.2.1 26 = .ok (.caload, 1) := by decide +kernel
theorem d_PC_repetitions_27 : decode M_PC_repetitions.2.1 27 = .ok (.iadd, 1) := by decide +kernel
theorem d_PC_repetitions_28 : decode M_PC_repetitions.2.1 28 = .ok (.bipush 48, 2) := by decide +kernel
theorem d_PC_repetitions_30 : decode M_PC_repetitions.2.1 30 = .ok (.isub, 1) := by decide +kernel
theorem d_PC_repetitions_31 : decode M_PC_repetitions.2.1 31 = .ok (.ireturn, 1) := by decide +kernel
theorem d_PC_append_0 : decode M_PC_append.2.1 0 = .ok (.iload_n 1, 1) := by decide +kernel
theorem d_PC_append_1 : decode M_PC_append.2.1 1 = .ok (.bipush 40, 2) := by decide +kernel
theorem d_PC_append_3 : decode M_PC_append.2.1 3 = .ok (.if_icmp .eq 24, 3) := by decide +kernel
theorem d_PC_append_6 : decode M_PC_append.2.1 6 = .ok (.iload_n 1, 1) := by decide +kernel
theorem d_PC_append_7 : decode M_PC_append.2.1 7 = .ok (.bipush 41, 2) := by decide +kernel
theorem d_PC_append_9 : decode M_PC_append.2.1 9 = .ok (.if_icmp .eq 18, 3) := by decide +kernel
theorem d_PC_append_12 : decode M_PC_append.2.1 12 = .ok (.iload_n 2, 1) := by decide +kernel
theorem d_PC_append_13 : decode M_PC_append.2.1 13 = .ok (.ifCond .eq 14, 3) := by decide +kernel
theorem d_PC_append_16 : decode M_PC_append.2.1 16 = .ok (.aload_n 0, 1) := by decide +kernel
theorem d_PC_append_17 : decode M_PC_append.2.1 17 = .ok (.getfield 37, 3) := by decide +kernel
theorem d_PC_append_20 : decode M_PC_append.2.1 20 = .ok (.iload_n 2, 1) := by decide +kernel
theorem d_PC_append_21 : decode M_PC_append.2.1 21 = .ok (.iadd, 1) := by decide +kernel
theorem d_PC_append_22 : decode M_PC_append.2.1 22 = .ok (.bipush 18, 2) := by decide +kernel
theorem d_PC_append_24 : decode M_PC_append.2.1 24 = .ok (.if_icmp .le 5, 3) := by decide +kernel
theorem d_PC_append_27 : decode M_PC_append.2.1 27 = .ok (.iconst 0, 1) := by decide +kernel
theorem d_PC_append_28 : decode M_PC_append.2.1 28 = .ok (.ireturn, 1) := by decide +kernel
theorem d_PC_append_29 : decode M_PC_append.2.1 29 = .ok (.iconst 0, 1) := by decide +kernel
theorem d_PC_append_30 : decode M_PC_append.2.1 30 = .ok (.istore_n 3, 1) := by decide +kernel
theorem d_PC_append_31 : decode M_PC_append.2.1 31 = .ok (.iload_n 3, 1) := by decide +kernel
theorem d_PC_append_32 : decode M_PC_append.2.1 32 = .ok (.iload_n 2, 1) := by decide +kernel
theorem d_PC_append_33 : decode M_PC_append.2.1 33 = .ok (.if_icmp .ge 29, 3) := by decide +kernel
theorem d_PC_append_36 : decode M_PC_append.2.1 36 = .ok (.aload_n 0, 1) := by decide +kernel
theorem d_PC_append_37 : decode M_PC_append.2.1 37 = .ok (.getfield 9, 3) := by decide +kernel
theorem d_PC_append_40 : decode M_PC_append.2.1 40 = .ok (.aload_n 0, 1) := by decide +kernel
theorem d_PC_append_41 : decode M_PC_append.2.1 41 = .ok (.getfield 37, 3) := by decide +kernel
theorem d_PC_append_44 : decode M_PC_append.2.1 44 = .ok (.iload_n 1, 1) := by decide +kernel
theorem d_PC_append_45 : decode M_PC_append.2.1 45 = .ok (.castore, 1) := by decide +kernel
theorem d_PC_append_46 : decode M_PC_append.2.1 46 = .ok (.aload_n 0, 1) := by decide +kernel
theorem d_PC_append_47 : decode M_PC_append.2.1 47 = .ok (.dup, 1) := by decide +kernel
theorem d_PC_append_48 : decode M_PC_append.2.1 48 = .ok (.getfield 37, 3) := by decide +kernel
theorem d_PC_append_51 : decode M_PC_append.2.1 51 = .ok (.iconst 1, 1) := by decide +kernel
theorem d_PC_append_52 : decode M_PC_append.2.1 52 = .ok (.iadd, 1) := by decide +kernel
theorem d_PC_append_53 : decode M_PC_append.2.1 53 = .ok (.putfield 37, 3) := by decide +kernel
theorem d_PC_append_56 : decode M_PC_append.2.1 56 = .ok (.iinc 3 1, 3) := by decide +kernel
theorem d_PC_append_59 : decode M_PC_append.2.1 59 = .ok (.goto (-28), 3) := by decide +kernel
theorem d_PC_append_62 : decode M_PC_append.2.1 62 = .ok (.iconst 1, 1) := by decide +kernel
theorem d_PC_append_63 : decode M_PC_append.2.1 63 = .ok (.ireturn, 1) := by decide +kernel
theorem d_PC_readNumeric_0 : decode M_PC_readNumeric.2.1 0 = .ok (.aload_n 0, 1) := by decide +kernel
theorem d_PC_readNumeric_1 : decode M_PC_readNumeric.2.1 1 = .ok (.iconst 0, 1) := by decide +kernel
theorem d_PC_readNumeric_2 : decode M_PC_readNumeric.2.1 2 = .ok (.putfield 30, 3) := by decide +kernel
theorem d_PC_readNumeric_5 : decode M_PC_readNumeric.2.1 5 = .ok (.aload_n 0, 1) := by decide +kernel
theorem d_PC_readNumeric_6 : decode M_PC_readNumeric.2.1 6 = .ok (.aload_n 0, 1) := by decide +kernel
theorem d_PC_readNumeric_7 : decode M_PC_readNumeric.2.1 7 = .ok (.getfield 9, 3) := by decide +kernel
theorem d_PC_readNumeric_10 : decode M_PC_readNumeric.2.1 10 = .ok (.iconst 0, 1) := by decide +kernel
theorem d_PC_readNumeric_11 : decode M_PC_readNumeric.2.1 11 = .ok (.caload, 1) := by decide +kernel
theorem d_PC_readNumeric_12 : decode M_PC_readNumeric.2.1 12 = .ok (.bipush 83, 2) := by decide +kernel
theorem d_PC_readNumeric_14 : decode M_PC_readNumeric.2.1 14 = .ok (.if_icmp .ne 7, 3) := by decide +kernel
theorem d_PC_readNumeric_17 : decode M_PC_readNumeric.2.1 17 = .ok (.iconst 1, 1) := by decide +kernel
theorem d_PC_readNumeric_18 : decode M_PC_readNumeric.2.1 18 = .ok (.goto 4, 3) := by decide +kernel
theorem d_PC_readNumeric_21 : decode M_PC_readNumeric.2.1 21 = .ok (.iconst 0, 1) := by decide +kernel
theorem d_PC_readNumeric_22 : decode M_PC_readNumeric.2.1 22 = .ok (.putfield 34, 3) := by decide +kernel
theorem d_PC_readNumeric_25 : decode M_PC_readNumeric.2.1 25 = .ok (.aload_n 0, 1) := by decide +kernel
theorem d_PC_readNumeric_26 : decode M_PC_readNumeric.2.1 26 = .ok (.iconst 0, 1) := by decide +kernel
theorem d_PC_readNumeric_27 : decode M_PC_readNumeric.2.1 27 = .ok (.putfield 41, 3) := by decide +kernel
theorem d_PC_readNumeric_30 : decode M_PC_readNumeric.2.1 30 = .ok (.aload_n 0, 1) := by decide +kernel
theorem d_PC_readNumeric_31 : decode M_PC_readNumeric.2.1 31 = .ok (.iconst 0, 1) := by decide +kernel
theorem d_PC_readNumeric_32 : decode M_PC_readNumeric.2.1 32 = .ok (.putfield 71, 3) := by decide +kernel
theorem d_PC_readNumeric_35 : decode M_PC_readNumeric.2.1 35 = .ok (.iconst 0, 1) := by decide +kernel
theorem d_PC_readNumeric_36 : decode M_PC_readNumeric.2.1 36 = .ok (.istore_n 1, 1) := by decide +kernel
theorem d_PC_readNumeric_37 : decode M_PC_readNumeric.2.1 37 = .ok (.aload_n 0, 1) := by decide +kernel
theorem d_PC_readNumeric_38 : decode M_PC_readNumeric.2.1 38 = .ok (.getfield 34, 3) := by decide +kernel
theorem d_PC_readNumeric_41 : decode M_PC_readNumeric.2.1 41 = .ok (.ifCond .eq 7, 3) := by decide +kernel
theorem d_PC_readNumeric_44 : decode M_PC_readNumeric.2.1 44 = .ok (.iconst 1, 1) := by decide +kernel
theorem d_PC_readNumeric_45 : decode M_PC_readNumeric.2.1 45 = .ok (.goto 4, 3) := by decide +kernel
theorem d_PC_readNumeric_48 : decode M_PC_readNumeric.2.1 48 = .ok (.iconst 0, 1) := by decide +kernel
theorem d_PC_readNumeric_49 : decode M_PC_readNumeric.2.1 49 = .ok (.istore_n 2, 1) := by decide +kernel
theorem d_PC_readNumeric_50 : decode M_PC_readNumeric.2.1 50 = .ok (.iload_n 2, 1) := by decide +kernel
theorem d_PC_readNumeric_51 : decode M_PC_readNumeric.2.1 51 = .ok (.aload_n 0, 1) := by decide +kernel
theorem d_PC_readNumeric_52 : decode M_PC_readNumeric.2.1 52 = .ok (.getfield 37, 3) := by decide +kernel
theorem d_PC_readNumeric_55 : decode M_PC_readNumeric.2.1 55 = .ok (.if_icmp .ge 73, 3) := by decide +kernel
theorem d_PC_readNumeric_58 : decode M_PC_readNumeric.2.1 58 = .ok (.aload_n 0, 1) := by decide +kernel
theorem d_PC_readNumeric_59 : decode M_PC_readNumeric.2.1 59 = .ok (.getfield 9, 3) := by decide +kernel
theorem d_PC_readNumeric_62 : decode M_PC_readNumeric.2.1 62 = .ok (.iload_n 2, 1) := by decide +kernel
theorem d_PC_readNumeric_63 : decode M_PC_readNumeric.2.1 63 = .ok (.caload, 1) := by decide +kernel
theorem d_PC_readNumeric_64 : decode M_PC_readNumeric.2.1 64 = .ok (.bipush 57, 2) := by decide +kernel
theorem d_PC_readNumeric_66 : decode M_PC_readNumeric.2.1 66 = .ok (.if_icmp .ne 34, 3) := by decide +kernel
theorem d_PC_readNumeric_69 : decode M_PC_readNumeric.2.1 69 = .ok (.aload_n 0, 1) := by decide +kernel
theorem d_PC_readNumeric_70 : decode M_PC_readNumeric.2.1 70 = .ok (.dup, 1) := by decide +kernel
theorem d_PC_readNumeric_71 : decode M_PC_readNumeric.2.1 71 = .ok (.getfield 41, 3) := by decide +kernel
theorem d_PC_readNumeric_74 : decode M_PC_readNumeric.2.1 74 = .ok (.iconst 1, 1) := by decide +kernel
theorem d_PC_readNumeric_75 : decode M_PC_readNumeric.2.1 75 = .ok (.iadd, 1) := by decide +kernel
theorem d_PC_readNumeric_76 : decode M_PC_readNumeric.2.1 76 = .ok (.putfield 41, 3) := by decide +kernel
theorem d_PC_readNumeric_79 : decode M_PC_readNumeric.2.1 79 = .ok (.aload_n 0, 1) := by decide +kernel
theorem d_PC_readNumeric_80 : decode M_PC_readNumeric.2.1 80 = .ok (.dup, 1) := by decide +kernel
theorem d_PC_readNumeric_81 : decode M_PC_readNumeric.2.1 81 = .ok (.getfield 71, 3) := by decide +kernel
theorem d_PC_readNumeric_84 : decode M_PC_readNumeric.2.1 84 = .ok (.iload_n 1, 1) := by decide +kernel
theorem d_PC_readNumeric_85 : decode M_PC_readNumeric.2.1 85 = .ok (.ifCond .eq 7, 3) := by decide +kernel
theorem d_PC_readNumeric_88 : decode M_PC_readNumeric.2.1 88 = .ok (.iconst 1, 1) := by decide +kernel
theorem d_PC_readNumeric_89 : decode M_PC_readNumeric.2.1 89 = .ok (.goto 4, 3) := by decide +kernel
theorem d_PC_readNumeric_92 : decode M_PC_readNumeric.2.1 92 = .ok (.iconst 0, 1) := by decide +kernel
theorem d_PC_readNumeric_93 : decode M_PC_readNumeric.2.1 93 = .ok (.iadd, 1) := by decide +kernel
theorem d_PC_readNumeric_94 : decode M_PC_readNumeric.2.1 94 = .ok (.putfield 71, 3) := by decide +kernel
theorem d_PC_readNumeric_97 : decode M_PC_readNumeric.2.1 97 = .ok (.goto 25, 3) := by decide +kernel
theorem d_PC_readNumeric_100 : decode M_PC_readNumeric.2.1 100 = .ok (.aload_n 0, 1) := by decide +kernel
theorem d_PC_readNumeric_101 : decode M_PC_readNumeric.2.1 101 = .ok (.getfield 9, 3) := by decide +kernel
theorem d_PC_readNumeric_104 : decode M_PC_readNumeric.2.1 104 = .ok (.iload_n 2, 1) := by decide +kernel
theorem d_PC_readNumeric_105 : decode M_PC_readNumeric.2.1 105 = .ok (.caload, 1) := by decide +kernel
theorem d_PC_readNumeric_106 : decode M_PC_readNumeric.2.1 106 = .ok (.bipush 86, 2) := by decide +kernel
theorem d_PC_readNumeric_108 : decode M_PC_readNumeric.2.1 108 = .ok (.if_icmp .ne 12, 3) := by decide +kernel
theorem d_PC_readNumeric_111 : decode M_PC_readNumeric.2.1 111 = .ok (.iload_n 1, 1) := by decide +kernel
theorem d_PC_readNumeric_112 : decode M_PC_readNumeric.2.1 112 = .ok (.ifCond .ne 8, 3) := by decide +kernel
theorem d_PC_readNumeric_115 : decode M_PC_readNumeric.2.1 115 = .ok (.iconst 1, 1) := by decide +kernel
theorem d_PC_readNumeric_116 : decode M_PC_readNumeric.2.1 116 = .ok (.istore_n 1, 1) := by decide +kernel
theorem d_PC_readNumeric_117 : decode M_PC_readNumeric.2.1 117 = .ok (.goto 5, 3) := by decide +kernel
theorem d_PC_readNumeric_120 : decode M_PC_readNumeric.2.1 120 = .ok (.iconst 0, 1) := by decide +kernel
theorem d_PC_readNumeric_121 : decode M_PC_readNumeric.2.1 121 = .ok (.ireturn, 1) := by decide +kernel
theorem d_PC_readNumeric_122 : decode M_PC_readNumeric.2.1 122 = .ok (.iinc 2 1, 3) := by decide +kernel
theorem d_PC_readNumeric_125 : decode M_PC_readNumeric.2.1 125 = .ok (.goto (-75), 3) := by decide +kernel
theorem d_PC_readNumeric_128 : decode M_PC_readNumeric.2.1 128 = .ok (.aload_n 0, 1) := by decide +kernel
theorem d_PC_readNumeric_129 : decode M_PC_readNumeric.2.1 129 = .ok (.invokevirtual 74, 3) := by decide +kernel
theorem d_PC_readNumeric_132 : decode M_PC_readNumeric.2.1 132 = .ok (.ireturn, 1) := by decide +kernel
theorem d_PC_isWithinLimits_0 : decode M_PC_isWithinLimits.2.1 0 = .ok (.aload_n 0, 1) := by decide +kernel
theorem d_PC_isWithinLimits_1 : decode M_PC_isWithinLimits.2.1 1 = .ok (.getfield 41, 3) := by decide +kernel
theorem d_PC_isWithinLimits_4 : decode M_PC_isWithinLimits.2.1 4 = .ok (.iconst 1, 1) := by decide +kernel
theorem d_PC_isWithinLimits_5 : decode M_PC_isWithinLimits.2.1 5 = .ok (.if_icmp .lt 24, 3) := by decide +kernel
theorem d_PC_isWithinLimits_8 : decode M_PC_isWithinLimits.2.1 8 = .ok (.aload_n 0, 1) := by decide +kernel
theorem d_PC_isWithinLimits_9 : decode M_PC_isWithinLimits.2.1 9 = .ok (.getfield 41, 3) := by decide +kernel
theorem d_PC_isWithinLimits_12 : decode M_PC_isWithinLimits.2.1 12 = .ok (.bipush 9, 2) := by decide +kernel
theorem d_PC_isWithinLimits_14 : decode M_PC_isWithinLimits.2.1 14 = .ok (.if_icmp .gt 15, 3) := by decide +kernel
theorem d_PC_isWithinLimits_17 : decode M_PC_isWithinLimits.2.1 17 = .ok (.aload_n 0, 1) := by decide +kernel
theorem d_PC_isWithinLimits_18 : decode M_PC_isWithinLimits.2.1 18 = .ok (.getfield 71, 3) := by decide +kernel
theorem d_PC_isWithinLimits_21 : decode M_PC_isWithinLimits.2.1 21 = .ok (.iconst 4, 1) := by decide +kernel
theorem d_PC_isWithinLimits_22 : decode M_PC_isWithinLimits.2.1 22 = .ok (.if_icmp .gt 7, 3) := by decide +kernel
theorem d_PC_isWithinLimits_25 : decode M_PC_isWithinLimits.2.1 25 = .ok (.iconst 1, 1) := by decide +kernel
theorem d_PC_isWithinLimits_26 : decode M_PC_isWithinLimits.2.1 26 = .ok (.goto 4, 3) := by decide +kernel
theorem d_PC_isWithinLimits_29 : decode M_PC_isWithinLimits.2.1 29 = .ok (.iconst 0, 1) := by decide +kernel
theorem d_PC_isWithinLimits_30 : decode M_PC_isWithinLimits.2.1 30 = .ok (.ireturn, 1) := by decide +kernel
theorem d_PC_readEdited_0 : decode M_PC_readEdited.2.1 0 = .ok (.aload_n 0, 1) := by decide +kernel
theorem d_PC_readEdited_1 : decode M_PC_readEdited.2.1 1 = .ok (.iconst 1, 1) := by decide +kernel
theorem d_PC_readEdited_2 : decode M_PC_readEdited.2.1 2 = .ok (.putfield 30, 3) := by decide +kernel
theorem d_PC_readEdited_5 : decode M_PC_readEdited.2.1 5 = .ok (.aload_n 0, 1) := by decide +kernel
theorem d_PC_readEdited_6 : decode M_PC_readEdited.2.1 6 = .ok (.bipush 43, 2) := by decide +kernel
theorem d_PC_readEdited_8 : decode M_PC_readEdited.2.1 8 = .ok (.invokevirtual 77, 3) := by decide +kernel
theorem d_PC_readEdited_11 : decode M_PC_readEdited.2.1 11 = .ok (.aload_n 0, 1) := by decide +kernel
theorem d_PC_readEdited_12 : decode M_PC_readEdited.2.1 12 = .ok (.bipush 45, 2) := by decide +kernel
theorem d_PC_readEdited_14 : decode M_PC_readEdited.2.1 14 = .ok (.invokevirtual 77, 3) := by decide +kernel
theorem d_PC_readEdited_17 : decode M_PC_readEdited.2.1 17 = .ok (.iadd, 1) := by decide +kernel
theorem d_PC_readEdited_18 : decode M_PC_readEdited.2.1 18 = .ok (.istore_n 1, 1) := by decide +kernel
theorem d_PC_readEdited_19 : decode M_PC_readEdited.2.1 19 = .ok (.iload_n 1, 1) := by decide +kernel
theorem d_PC_readEdited_20 : decode M_PC_readEdited.2.1 20 = .ok (.iconst 1, 1) := by decide +kernel
theorem d_PC_readEdited_21 : decode M_PC_readEdited.2.1 21 = .ok (.if_icmp .ne 21, 3) := by decide +kernel
theorem d_PC_readEdited_24 : decode M_PC_readEdited.2.1 24 = .ok (.ldc 81, 2) := by decide +kernel
theorem d_PC_readEdited_26 : decode M_PC_readEdited.2.1 26 = .ok (.aload_n 0, 1) := by decide +kernel
theorem d_PC_readEdited_27 : decode M_PC_readEdited.2.1 27 = .ok (.getfield 9, 3) := by decide +kernel
theorem d_PC_readEdited_30 : decode M_PC_readEdited.2.1 30 = .ok (.iconst 0, 1) := by decide +kernel
theorem d_PC_readEdited_31 : decode M_PC_readEdited.2.1 31 = .ok (.caload, 1) := by decide +kernel
theorem d_PC_readEdited_32 : decode M_PC_readEdited.2.1 32 = .ok (.invokestatic 63, 3) := by decide +kernel
theorem d_PC_readEdited_35 : decode M_PC_readEdited.2.1 35 = .ok (.ifCond .eq 7, 3) := by decide +kernel
theorem d_PC_readEdited_38 : decode M_PC_readEdited.2.1 38 = .ok (.iconst 1, 1) := by decide +kernel
theorem d_PC_readEdited_39 : decode M_PC_readEdited.2.1 39 = .ok (.goto 4, 3) := by decide +kernel
theorem d_PC_readEdited_42 : decode M_PC_readEdited.2.1 42 = .ok (.iconst 0, 1) := by decide +kernel
theorem d_PC_readEdited_43 : decode M_PC_readEdited.2.1 43 = .ok (.istore_n 2, 1) := by decide +kernel
theorem d_PC_readEdited_44 : decode M_PC_readEdited.2.1 44 = .ok (.iload_n 1, 1) := by decide +kernel
theorem d_PC_readEdited_45 : decode M_PC_readEdited.2.1 45 = .ok (.iconst 1, 1) := by decide +kernel
theorem d_PC_readEdited_46 : decode M_PC_readEdited.2.1 46 = .ok (.if_icmp .ne 30, 3) := by decide +kernel
theorem d_PC_readEdited_49 : decode M_PC_readEdited.2.1 49 = .ok (.iload_n 2, 1) := by decide +kernel
theorem d_PC_readEdited_50 : decode M_PC_readEdited.2.1 50 = .ok (.ifCond .ne 26, 3) := by decide +kernel
theorem d_PC_readEdited_53 : decode M_PC_readEdited.2.1 53 = .ok (.ldc 81, 2) := by decide +kernel
theorem d_PC_readEdited_55 : decode M_PC_readEdited.2.1 55 = .ok (.aload_n 0, 1) := by decide +kernel
theorem d_PC_readEdited_56 : decode M_PC_readEdited.2.1 56 = .ok (.getfield 9, 3) := by decide +kernel
theorem d_PC_readEdited_59 : decode M_PC_readEdited.2.1 59 = .ok (.aload_n 0, 1) := by decide +kernel
theorem d_PC_readEdited_60 : decode M_PC_readEdited.2.1 60 = .ok (.getfield 37, 3) := by decide +kernel
theorem d_PC_readEdited_63 : decode M_PC_readEdited.2.1 63 = .ok (.iconst 1, 1) := by decide +kernel
theorem d_PC_readEdited_64 : decode M_PC_readEdited.2.1 64 = .ok (.isub, 1) := by decide +kernel
theorem d_PC_readEdited_65 : decode M_PC_readEdited.2.1 65 = .ok (.caload, 1) := by decide +kernel
theorem d_PC_readEdited_66 : decode M_PC_readEdited.2.1 66 = .ok (.invokestatic 63, 3) := by decide +kernel
theorem d_PC_readEdited_69 : decode M_PC_readEdited.2.1 69 = .ok (.ifCond .eq 7, 3) := by decide +kernel
theorem d_PC_readEdited_72 : decode M_PC_readEdited.2.1 72 = .ok (.iconst 1, 1) := by decide +kernel
theorem d_PC_readEdited_73 : decode M_PC_readEdited.2.1 73 = .ok (.goto 4, 3) := by decide +kernel
theorem d_PC_readEdited_76 : decode M_PC_readEdited.2.1 76 = .ok (.iconst 0, 1) := by decide +kernel
theorem d_PC_readEdited_77 : decode M_PC_readEdited.2.1 77 = .ok (.istore_n 3, 1) := by decide +kernel
theorem d_PC_readEdited_78 : decode M_PC_readEdited.2.1 78 = .ok (.iload_n 1, 1) := by decide +kernel
theorem d_PC_readEdited_79 : decode M_PC_readEdited.2.1 79 = .ok (.ifCond .ne 29, 3) := by decide +kernel
theorem d_PC_readEdited_82 : decode M_PC_readEdited.2.1 82 = .ok (.aload_n 0, 1) := by decide +kernel
theorem d_PC_readEdited_83 : decode M_PC_readEdited.2.1 83 = .ok (.bipush 67, 2) := by decide +kernel
theorem d_PC_readEdited_85 : decode M_PC_readEdited.2.1 85 = .ok (.bipush 82, 2) := by decide +kernel
theorem d_PC_readEdited_87 : decode M_PC_readEdited.2.1 87 = .ok (.invokevirtual 83, 3) := by decide +kernel
theorem d_PC_readEdited_90 : decode M_PC_readEdited.2.1 90 = .ok (.ifCond .ne 14, 3) := by decide +kernel
theorem d_PC_readEdited_93 : decode M_PC_readEdited.2.1 93 = .ok (.aload_n 0, 1) := by decide +kernel
theorem d_PC_readEdited_94 : decode M_PC_readEdited.2.1 94 = .ok (.bipush 68, 2) := by decide +kernel
theorem d_PC_readEdited_96 : decode M_PC_readEdited.2.1 96 = .ok (.bipush 66, 2) := by decide +kernel
theorem d_PC_readEdited_98 : decode M_PC_readEdited.2.1 98 = .ok (.invokevirtual 83, 3) := by decide +kernel
theorem d_PC_readEdited_101 : decode M_PC_readEdited.2.1 101 = .ok (.ifCond .eq 7, 3) := by decide +kernel
theorem d_PC_readEdited_104 : decode M_PC_readEdited.2.1 104 = .ok (.iconst 1, 1) := by decide +kernel
theorem d_PC_readEdited_105 : decode M_PC_readEdited.2.1 105 = .ok (.goto 4, 3) := by decide +kernel
theorem d_PC_readEdited_108 : decode M_PC_readEdited.2.1 108 = .ok (.iconst 0, 1) := by decide +kernel
theorem d_PC_readEdited_109 : decode M_PC_readEdited.2.1 109 = .ok (.istore 4, 2) := by decide +kernel
theorem d_PC_readEdited_111 : decode M_PC_readEdited.2.1 111 = .ok (.aload_n 0, 1) := by decide +kernel
theorem d_PC_readEdited_112 : decode M_PC_readEdited.2.1 112 = .ok (.iload_n 2, 1) := by decide +kernel
theorem d_PC_readEdited_113 : decode M_PC_readEdited.2.1 113 = .ok (.ifCond .eq 7, 3) := by decide +kernel
theorem d_PC_readEdited_116 : decode M_PC_readEdited.2.1 116 = .ok (.iconst 1, 1) := by decide +kernel
theorem d_PC_readEdited_117 : decode M_PC_readEdited.2.1 117 = .ok (.goto 4, 3) := by decide +kernel
theorem d_PC_readEdited_120 : decode M_PC_readEdited.2.1 120 = .ok (.iconst 0, 1) := by decide +kernel
theorem d_PC_readEdited_121 : decode M_PC_readEdited.2.1 121 = .ok (.putfield 87, 3) := by decide +kernel
theorem d_PC_readEdited_124 : decode M_PC_readEdited.2.1 124 = .ok (.aload_n 0, 1) := by decide +kernel
theorem d_PC_readEdited_125 : decode M_PC_readEdited.2.1 125 = .ok (.getfield 87, 3) := by decide +kernel
theorem d_PC_readEdited_128 : decode M_PC_readEdited.2.1 128 = .ok (.aload_n 0, 1) := by decide +kernel
theorem d_PC_readEdited_129 : decode M_PC_readEdited.2.1 129 = .ok (.getfield 37, 3) := by decide +kernel
theorem d_PC_readEdited_132 : decode M_PC_readEdited.2.1 132 = .ok (.if_icmp .ge 37, 3) := by decide +kernel
theorem d_PC_readEdited_135 : decode M_PC_readEdited.2.1 135 = .ok (.aload_n 0, 1) := by decide +kernel
theorem d_PC_readEdited_136 : decode M_PC_readEdited.2.1 136 = .ok (.getfield 9, 3) := by decide +kernel
theorem d_PC_readEdited_139 : decode M_PC_readEdited.2.1 139 = .ok (.aload_n 0, 1) := by decide +kernel
theorem d_PC_readEdited_140 : decode M_PC_readEdited.2.1 140 = .ok (.getfield 87, 3) := by decide +kernel
theorem d_PC_readEdited_143 : decode M_PC_readEdited.2.1 143 = .ok (.caload, 1) := by decide +kernel
theorem d_PC_readEdited_144 : decode M_PC_readEdited.2.1 144 = .ok (.bipush 36, 2) := by decide +kernel
theorem d_PC_readEdited_146 : decode M_PC_readEdited.2.1 146 = .ok (.if_icmp .ne 23, 3) := by decide +kernel
theorem d_PC_readEdited_149 : decode M_PC_readEdited.2.1 149 = .ok (.aload_n 0, 1) := by decide +kernel
theorem d_PC_readEdited_150 : decode M_PC_readEdited.2.1 150 = .ok (.bipush 36, 2) := by decide +kernel
theorem d_PC_readEdited_152 : decode M_PC_readEdited.2.1 152 = .ok (.invokevirtual 77, 3) := by decide +kernel
theorem d_PC_readEdited_155 : decode M_PC_readEdited.2.1 155 = .ok (.iconst 1, 1) := by decide +kernel
theorem d_PC_readEdited_156 : decode M_PC_readEdited.2.1 156 = .ok (.if_icmp .ne 13, 3) := by decide +kernel
theorem d_PC_readEdited_159 : decode M_PC_readEdited.2.1 159 = .ok (.aload_n 0, 1) := by decide +kernel
theorem d_PC_readEdited_160 : decode M_PC_readEdited.2.1 160 = .ok (.dup, 1) := by decide +kernel
theorem d_PC_readEdited_161 : decode M_PC_readEdited.2.1 161 = .ok (.getfield 87, 3) := by decide +kernel
theorem d_PC_readEdited_164 : decode M_PC_readEdited.2.1 164 = .ok (.iconst 1, 1) := by decide +kernel
theorem d_PC_readEdited_165 : decode M_PC_readEdited.2.1 165 = .ok (.iadd, 1) := by decide +kernel
theorem d_PC_readEdited_166 : decode M_PC_readEdited.2.1 166 = .ok (.putfield 87, 3) := by decide +kernel
theorem d_PC_readEdited_169 : decode M_PC_readEdited.2.1 169 = .ok (.aload_n 0, 1) := by decide +kernel
theorem d_PC_readEdited_170 : decode M_PC_readEdited.2.1 170 = .ok (.aload_n 0, 1) := by decide +kernel
theorem d_PC_readEdited_171 : decode M_PC_readEdited.2.1 171 = .ok (.getfield 37, 3) := by decide +kernel
theorem d_PC_readEdited_174 : decode M_PC_readEdited.2.1 174 = .ok (.putfield 90, 3) := by decide +kernel
theorem d_PC_readEdited_177 : decode M_PC_readEdited.2.1 177 = .ok (.iload_n 3, 1) := by decide +kernel
theorem d_PC_readEdited_178 : decode M_PC_readEdited.2.1 178 = .ok (.ifCond .eq 16, 3) := by decide +kernel
theorem d_PC_readEdited_181 : decode M_PC_readEdited.2.1 181 = .ok (.aload_n 0, 1) := by decide +kernel
theorem d_PC_readEdited_182 : decode M_PC_readEdited.2.1 182 = .ok (.aload_n 0, 1) := by decide +kernel
theorem d_PC_readEdited_183 : decode M_PC_readEdited.2.1 183 = .ok (.getfield 37, 3) := by decide +kernel
theorem d_PC_readEdited_186 : decode M_PC_readEdited.2.1 186 = .ok (.iconst 1, 1) := by decide +kernel
theorem d_PC_readEdited_187 : decode M_PC_readEdited.2.1 187 = .ok (.isub, 1) := by decide +kernel
theorem d_PC_readEdited_188 : decode M_PC_readEdited.2.1 188 = .ok (.putfield 90, 3) := by decide +kernel
theorem d_PC_readEdited_191 : decode M_PC_readEdited.2.1 191 = .ok (.goto 18, 3) := by decide +kernel
theorem d_PC_readEdited_194 : decode M_PC_readEdited.2.1 194 = .ok (.iload 4, 2) := by decide +kernel
theorem d_PC_readEdited_196 : decode M_PC_readEdited.2.1 196 = .ok (.ifCond .eq 13, 3) := by decide +kernel
theorem d_PC_readEdited_199 : decode M_PC_readEdited.2.1 199 = .ok (.aload_n 0, 1) := by decide +kernel
theorem d_PC_readEdited_200 : decode M_PC_readEdited.2.1 200 = .ok (.aload_n 0, 1) := by decide +kernel
theorem d_PC_readEdited_201 : decode M_PC_readEdited.2.1 201 = .ok (.getfield 37, 3) := by decide +kernel
theorem d_PC_readEdited_204 : decode M_PC_readEdited.2.1 204 = .ok (.iconst 2, 1) := by decide +kernel
theorem d_PC_readEdited_205 : decode M_PC_readEdited.2.1 205 = .ok (.isub, 1) := by decide +kernel
theorem d_PC_readEdited_206 : decode M_PC_readEdited.2.1 206 = .ok (.putfield 90, 3) := by decide +kernel
theorem d_PC_readEdited_209 : decode M_PC_readEdited.2.1 209 = .ok (.aload_n 0, 1) := by decide +kernel
theorem d_PC_readEdited_210 : decode M_PC_readEdited.2.1 210 = .ok (.invokevirtual 93, 3) := by decide +kernel
theorem d_PC_readEdited_213 : decode M_PC_readEdited.2.1 213 = .ok (.ifCond .ne 5, 3) := by decide +kernel
theorem d_PC_readEdited_216 : decode M_PC_readEdited.2.1 216 = .ok (.iconst 0, 1) := by decide +kernel
theorem d_PC_readEdited_217 : decode M_PC_readEdited.2.1 217 = .ok (.ireturn, 1) := by decide +kernel
theorem d_PC_readEdited_218 : decode M_PC_readEdited.2.1 218 = .ok (.aload_n 0, 1) := by decide +kernel
theorem d_PC_readEdited_219 : decode M_PC_readEdited.2.1 219 = .ok (.iload_n 2, 1) := by decide +kernel
theorem d_PC_readEdited_220 : decode M_PC_readEdited.2.1 220 = .ok (.ifCond .ne 24, 3) := by decide +kernel
theorem d_PC_readEdited_223 : decode M_PC_readEdited.2.1 223 = .ok (.iload_n 3, 1) := by decide +kernel
theorem d_PC_readEdited_224 : decode M_PC_readEdited.2.1 224 = .ok (.ifCond .ne 20, 3) := by decide +kernel
theorem d_PC_readEdited_227 : decode M_PC_readEdited.2.1 227 = .ok (.iload 4, 2) := by decide +kernel
theorem d_PC_readEdited_229 : decode M_PC_readEdited.2.1 229 = .ok (.ifCond .ne 15, 3) := by decide +kernel
theorem d_PC_readEdited_232 : decode M_PC_readEdited.2.1 232 = .ok (.ldc 81, 2) := by decide +kernel
theorem d_PC_readEdited_234 : decode M_PC_readEdited.2.1 234 = .ok (.aload_n 0, 1) := by decide +kernel
theorem d_PC_readEdited_235 : decode M_PC_readEdited.2.1 235 = .ok (.getfield 15, 3) := by decide +kernel
theorem d_PC_readEdited_238 : decode M_PC_readEdited.2.1 238 = .ok (.invokestatic 63, 3) := by decide +kernel
theorem d_PC_readEdited_241 : decode M_PC_readEdited.2.1 241 = .ok (.ifCond .eq 7, 3) := by decide +kernel
theorem d_PC_readEdited_244 : decode M_PC_readEdited.2.1 244 = .ok (.iconst 1, 1) := by decide +kernel
theorem d_PC_readEdited_245 : decode M_PC_readEdited.2.1 245 = .ok (.goto 4, 3) := by decide +kernel
theorem d_PC_readEdited_248 : decode M_PC_readEdited.2.1 248 = .ok (.iconst 0, 1) := by decide +kernel
theorem d_PC_readEdited_249 : decode M_PC_readEdited.2.1 249 = .ok (.putfield 34, 3) := by decide +kernel
theorem d_PC_readEdited_252 : decode M_PC_readEdited.2.1 252 = .ok (.aload_n 0, 1) := by decide +kernel
theorem d_PC_readEdited_253 : decode M_PC_readEdited.2.1 253 = .ok (.invokevirtual 74, 3) := by decide +kernel
theorem d_PC_readEdited_256 : decode M_PC_readEdited.2.1 256 = .ok (.ireturn, 1) := by decide +kernel
theorem d_PC_countOf_0 : decode M_PC_countOf.2.1 0 = .ok (.iconst 0, 1) := by decide +kernel
theorem d_PC_countOf_1 : decode M_PC_countOf.2.1 1 = .ok (.istore_n 2, 1) := by decide +kernel
theorem d_PC_countOf_2 : decode M_PC_countOf.2.1 2 = .ok (.iconst 0, 1) := by decide +kernel
theorem d_PC_countOf_3 : decode M_PC_countOf.2.1 3 = .ok (.istore_n 3, 1) := by decide +kernel
theorem d_PC_countOf_4 : decode M_PC_countOf.2.1 4 = .ok (.iload_n 3, 1) := by decide +kernel
theorem d_PC_countOf_5 : decode M_PC_countOf.2.1 5 = .ok (.aload_n 0, 1) := by decide +kernel
theorem d_PC_countOf_6 : decode M_PC_countOf.2.1 6 = .ok (.getfield 37, 3) := by decide +kernel
theorem d_PC_countOf_9 : decode M_PC_countOf.2.1 9 = .ok (.if_icmp .ge 27, 3) := by decide +kernel
theorem d_PC_countOf_12 : decode M_PC_countOf.2.1 12 = .ok (.iload_n 2, 1) := by decide +kernel
theorem d_PC_countOf_13 : decode M_PC_countOf.2.1 13 = .ok (.aload_n 0, 1) := by decide +kernel
theorem d_PC_countOf_14 : decode M_PC_countOf.2.1 14 = .ok (.getfield 9, 3) := by decide +kernel
theorem d_PC_countOf_17 : decode M_PC_countOf.2.1 17 = .ok (.iload_n 3, 1) := by decide +kernel
theorem d_PC_countOf_18 : decode M_PC_countOf.2.1 18 = .ok (.caload, 1) := by decide +kernel
theorem d_PC_countOf_19 : decode M_PC_countOf.2.1 19 = .ok (.iload_n 1, 1) := by decide +kernel
theorem d_PC_countOf_20 : decode M_PC_countOf.2.1 20 = .ok (.if_icmp .ne 7, 3) := by decide +kernel
theorem d_PC_countOf_23 : decode M_PC_countOf.2.1 23 = .ok (.iconst 1, 1) := by decide +kernel
theorem d_PC_countOf_24 : decode M_PC_countOf.2.1 24 = .ok (.goto 4, 3) := by decide +kernel
theorem d_PC_countOf_27 : decode M_PC_countOf.2.1 27 = .ok (.iconst 0, 1) := by decide +kernel
theorem d_PC_countOf_28 : decode M_PC_countOf.2.1 28 = .ok (.iadd, 1) := by decide +kernel
theorem d_PC_countOf_29 : decode M_PC_countOf.2.1 29 = .ok (.istore_n 2, 1) := by decide +kernel
theorem d_PC_countOf_30 : decode M_PC_countOf.2.1 30 = .ok (.iinc 3 1, 3) := by decide +kernel
theorem d_PC_countOf_33 : decode M_PC_countOf.2.1 33 = .ok (.goto (-29), 3) := by decide +kernel
theorem d_PC_countOf_36 : decode M_PC_countOf.2.1 36 = .ok (.iload_n 2, 1) := by decide +kernel
theorem d_PC_countOf_37 : decode M_PC_countOf.2.1 37 = .ok (.ireturn, 1) := by decide +kernel
theorem d_PC_endsWith_0 : decode M_PC_endsWith.2.1 0 = .ok (.aload_n 0, 1) := by decide +kernel
theorem d_PC_endsWith_1 : decode M_PC_endsWith.2.1 1 = .ok (.getfield 37, 3) := by decide +kernel
theorem d_PC_endsWith_4 : decode M_PC_endsWith.2.1 4 = .ok (.iconst 2, 1) := by decide +kernel
theorem d_PC_endsWith_5 : decode M_PC_endsWith.2.1 5 = .ok (.if_icmp .lt 37, 3) := by decide +kernel
theorem d_PC_endsWith_8 : decode M_PC_endsWith.2.1 8 = .ok (.aload_n 0, 1) := by decide +kernel
theorem d_PC_endsWith_9 : decode M_PC_endsWith.2.1 9 = .ok (.getfield 9, 3) := by decide +kernel
theorem d_PC_endsWith_12 : decode M_PC_endsWith.2.1 12 = .ok (.aload_n 0, 1) := by decide +kernel
theorem d_PC_endsWith_13 : decode M_PC_endsWith.2.1 13 = .ok (.getfield 37, 3) := by decide +kernel
theorem d_PC_endsWith_16 : decode M_PC_endsWith.2.1 16 = .ok (.iconst 2, 1) := by decide +kernel
theorem d_PC_endsWith_17 : decode M_PC_endsWith.2.1 17 = .ok (.isub, 1) := by decide +kernel
theorem d_PC_endsWith_18 : decode M_PC_endsWith.2.1 18 = .ok (.caload, 1) := by decide +kernel
theorem d_PC_endsWith_19 : decode M_PC_endsWith.2.1 19 = .ok (.iload_n 1, 1) := by decide +kernel
theorem d_PC_endsWith_20 : decode M_PC_endsWith.2.1 20 = .ok (.if_icmp .ne 22, 3) := by decide +kernel
theorem d_PC_endsWith_23 : decode M_PC_endsWith.2.1 23 = .ok (.aload_n 0, 1) := by decide +kernel
theorem d_PC_endsWith_24 : decode M_PC_endsWith.2.1 24 = .ok (.getfield 9, 3) := by decide +kernel
theorem d_PC_endsWith_27 : decode M_PC_endsWith.2.1 27 = .ok (.aload_n 0, 1) := by decide +kernel
theorem d_PC_endsWith_28 : decode M_PC_endsWith.2.1 28 = .ok (.getfield 37, 3) := by decide +kernel
theorem d_PC_endsWith_31 : decode M_PC_endsWith.2.1 31 = .ok (.iconst 1, 1) := by decide +kernel
theorem d_PC_endsWith_32 : decode M_PC_endsWith.2.1 32 = .ok (.isub, 1) := by decide +kernel
theorem d_PC_endsWith_33 : decode M_PC_endsWith.2.1 33 = .ok (.caload, 1) := by decide +kernel
theorem d_PC_endsWith_34 : decode M_PC_endsWith.2.1 34 = .ok (.iload_n 2, 1) := by decide +kernel
theorem d_PC_endsWith_35 : decode M_PC_endsWith.2.1 35 = .ok (.if_icmp .ne 7, 3) := by decide +kernel
theorem d_PC_endsWith_38 : decode M_PC_endsWith.2.1 38 = .ok (.iconst 1, 1) := by decide +kernel
theorem d_PC_endsWith_39 : decode M_PC_endsWith.2.1 39 = .ok (.goto 4, 3) := by decide +kernel
theorem d_PC_endsWith_42 : decode M_PC_endsWith.2.1 42 = .ok (.iconst 0, 1) := by decide +kernel
theorem d_PC_endsWith_43 : decode M_PC_endsWith.2.1 43 = .ok (.ireturn, 1) := by decide +kernel
theorem d_PC_readBody_0 : decode M_PC_readBody.2.1 0 = .ok (.aload_n 0, 1) := by decide +kernel
theorem d_PC_readBody_1 : decode M_PC_readBody.2.1 1 = .ok (.getfield 87, 3) := by decide +kernel
theorem d_PC_readBody_4 : decode M_PC_readBody.2.1 4 = .ok (.aload_n 0, 1) := by decide +kernel
theorem d_PC_readBody_5 : decode M_PC_readBody.2.1 5 = .ok (.getfield 90, 3) := by decide +kernel
theorem d_PC_readBody_8 : decode M_PC_readBody.2.1 8 = .ok (.if_icmp .ge 20, 3) := by decide +kernel
theorem d_PC_readBody_11 : decode M_PC_readBody.2.1 11 = .ok (.ldc 96, 2) := by decide +kernel
theorem d_PC_readBody_13 : decode M_PC_readBody.2.1 13 = .ok (.aload_n 0, 1) := by decide +kernel
theorem d_PC_readBody_14 : decode M_PC_readBody.2.1 14 = .ok (.getfield 9, 3) := by decide +kernel
theorem d_PC_readBody_17 : decode M_PC_readBody.2.1 17 = .ok (.aload_n 0, 1) := by decide +kernel
theorem d_PC_readBody_18 : decode M_PC_readBody.2.1 18 = .ok (.getfield 87, 3) := by decide +kernel
theorem d_PC_readBody_21 : decode M_PC_readBody.2.1 21 = .ok (.caload, 1) := by decide +kernel
theorem d_PC_readBody_22 : decode M_PC_readBody.2.1 22 = .ok (.invokestatic 63, 3) := by decide +kernel
theorem d_PC_readBody_25 : decode M_PC_readBody.2.1 25 = .ok (.ifCond .eq 5, 3) := by decide +kernel
theorem d_PC_readBody_28 : decode M_PC_readBody.2.1 28 = .ok (.iconst 0, 1) := by decide +kernel
theorem d_PC_readBody_29 : decode M_PC_readBody.2.1 29 = .ok (.ireturn, 1) := by decide +kernel
theorem d_PC_readBody_30 : decode M_PC_readBody.2.1 30 = .ok (.aload_n 0, 1) := by decide +kernel
theorem d_PC_readBody_31 : decode M_PC_readBody.2.1 31 = .ok (.bipush 32, 2) := by decide +kernel
theorem d_PC_readBody_33 : decode M_PC_readBody.2.1 33 = .ok (.putfield 15, 3) := by decide +kernel
theorem d_PC_readBody_36 : decode M_PC_readBody.2.1 36 = .ok (.aload_n 0, 1) := by decide +kernel
theorem d_PC_readBody_37 : decode M_PC_readBody.2.1 37 = .ok (.iconst 0, 1) := by decide +kernel
theorem d_PC_readBody_38 : decode M_PC_readBody.2.1 38 = .ok (.putfield 71, 3) := by decide +kernel
theorem d_PC_readBody_41 : decode M_PC_readBody.2.1 41 = .ok (.iconst 0, 1) := by decide +kernel
theorem d_PC_readBody_42 : decode M_PC_readBody.2.1 42 = .ok (.istore_n 1, 1) := by decide +kernel
theorem d_PC_readBody_43 : decode M_PC_readBody.2.1 43 = .ok (.iconst 0, 1) := by decide +kernel
theorem d_PC_readBody_44 : decode M_PC_readBody.2.1 44 = .ok (.istore_n 2, 1) := by decide +kernel
theorem d_PC_readBody_45 : decode M_PC_readBody.2.1 45 = .ok (.iconst 0, 1) := by decide +kernel
theorem d_PC_readBody_46 : decode M_PC_readBody.2.1 46 = .ok (.istore_n 3, 1) := by decide +kernel
theorem d_PC_readBody_47 : decode M_PC_readBody.2.1 47 = .ok (.aload_n 0, 1) := by decide +kernel
theorem d_PC_readBody_48 : decode M_PC_readBody.2.1 48 = .ok (.getfield 87, 3) := by decide +kernel
theorem d_PC_readBody_51 : decode M_PC_readBody.2.1 51 = .ok (.istore 4, 2) := by decide +kernel
theorem d_PC_readBody_53 : decode M_PC_readBody.2.1 53 = .ok (.iload 4, 2) := by decide +kernel
theorem d_PC_readBody_55 : decode M_PC_readBody.2.1 55 = .ok (.aload_n 0, 1) := by decide +kernel
theorem d_PC_readBody_56 : decode M_PC_readBody.2.1 56 = .ok (.getfield 90, 3) := by decide +kernel
theorem d_PC_readBody_59 : decode M_PC_readBody.2.1 59 = .ok (.if_icmp .ge 107, 3) := by decide +kernel
theorem d_PC_readBody_62 : decode M_PC_readBody.2.1 62 = .ok (.aload_n 0, 1) := by decide +kernel
theorem d_PC_readBody_63 : decode M_PC_readBody.2.1 63 = .ok (.getfield 9, 3) := by decide +kernel
theorem d_PC_readBody_66 : decode M_PC_readBody.2.1 66 = .ok (.iload 4, 2) := by decide +kernel
theorem d_PC_readBody_68 : decode M_PC_readBody.2.1 68 = .ok (.caload, 1) := by decide +kernel
theorem d_PC_readBody_69 : decode M_PC_readBody.2.1 69 = .ok (.istore 5, 2) := by decide +kernel
theorem d_PC_readBody_71 : decode M_PC_readBody.2.1 71 = .ok (.iload 5, 2) := by decide +kernel
theorem d_PC_readBody_73 : decode M_PC_readBody.2.1 73 = .ok (.bipush 57, 2) := by decide +kernel
theorem d_PC_readBody_75 : decode M_PC_readBody.2.1 75 = .ok (.if_icmp .ne 27, 3) := by decide +kernel
theorem d_PC_readBody_78 : decode M_PC_readBody.2.1 78 = .ok (.iinc 2 1, 3) := by decide +kernel
theorem d_PC_readBody_81 : decode M_PC_readBody.2.1 81 = .ok (.aload_n 0, 1) := by decide +kernel
theorem d_PC_readBody_82 : decode M_PC_readBody.2.1 82 = .ok (.dup, 1) := by decide +kernel
theorem d_PC_readBody_83 : decode M_PC_readBody.2.1 83 = .ok (.getfield 71, 3) := by decide +kernel
theorem d_PC_readBody_86 : decode M_PC_readBody.2.1 86 = .ok (.iload_n 3, 1) := by decide +kernel
theorem d_PC_readBody_87 : decode M_PC_readBody.2.1 87 = .ok (.ifCond .eq 7, 3) := by decide +kernel
theorem d_PC_readBody_90 : decode M_PC_readBody.2.1 90 = .ok (.iconst 1, 1) := by decide +kernel
theorem d_PC_readBody_91 : decode M_PC_readBody.2.1 91 = .ok (.goto 4, 3) := by decide +kernel
theorem d_PC_readBody_94 : decode M_PC_readBody.2.1 94 = .ok (.iconst 0, 1) := by decide +kernel
theorem d_PC_readBody_95 : decode M_PC_readBody.2.1 95 = .ok (.iadd, 1) := by decide +kernel
theorem d_PC_readBody_96 : decode M_PC_readBody.2.1 96 = .ok (.putfield 71, 3) := by decide +kernel
theorem d_PC_readBody_99 : decode M_PC_readBody.2.1 99 = .ok (.goto 61, 3) := by decide +kernel
theorem d_PC_readBody_102 : decode M_PC_readBody.2.1 102 = .ok (.iload 5, 2) := by decide +kernel
theorem d_PC_readBody_104 : decode M_PC_readBody.2.1 104 = .ok (.bipush 46, 2) := by decide +kernel
theorem d_PC_readBody_106 : decode M_PC_readBody.2.1 106 = .ok (.if_icmp .ne 12, 3) := by decide +kernel
theorem d_PC_readBody_109 : decode M_PC_readBody.2.1 109 = .ok (.iload_n 3, 1) := by decide +kernel
theorem d_PC_readBody_110 : decode M_PC_readBody.2.1 110 = .ok (.ifCond .ne 8, 3) := by decide +kernel
theorem d_PC_readBody_113 : decode M_PC_readBody.2.1 113 = .ok (.iconst 1, 1) := by decide +kernel
theorem d_PC_readBody_114 : decode M_PC_readBody.2.1 114 = .ok (.istore_n 3, 1) := by decide +kernel
theorem d_PC_readBody_115 : decode M_PC_readBody.2.1 115 = .ok (.goto 45, 3) := by decide +kernel
theorem d_PC_readBody_118 : decode M_PC_readBody.2.1 118 = .ok (.aload_n 0, 1) := by decide +kernel
theorem d_PC_readBody_119 : decode M_PC_readBody.2.1 119 = .ok (.iload 5, 2) := by decide +kernel
theorem d_PC_readBody_121 : decode M_PC_readBody.2.1 121 = .ok (.iload_n 1, 1) := by decide +kernel
theorem d_PC_readBody_122 : decode M_PC_readBody.2.1 122 = .ok (.invokevirtual 98, 3) := by decide +kernel
theorem d_PC_readBody_125 : decode M_PC_readBody.2.1 125 = .ok (.ifCond .eq 23, 3) := by decide +kernel
theorem d_PC_readBody_128 : decode M_PC_readBody.2.1 128 = .ok (.iload_n 2, 1) := by decide +kernel
theorem d_PC_readBody_129 : decode M_PC_readBody.2.1 129 = .ok (.ifCond .ne 19, 3) := by decide +kernel
theorem d_PC_readBody_132 : decode M_PC_readBody.2.1 132 = .ok (.iload_n 3, 1) := by decide +kernel
theorem d_PC_readBody_133 : decode M_PC_readBody.2.1 133 = .ok (.ifCond .ne 15, 3) := by decide +kernel
theorem d_PC_readBody_136 : decode M_PC_readBody.2.1 136 = .ok (.aload_n 0, 1) := by decide +kernel
theorem d_PC_readBody_137 : decode M_PC_readBody.2.1 137 = .ok (.iload 5, 2) := by decide +kernel
theorem d_PC_readBody_139 : decode M_PC_readBody.2.1 139 = .ok (.putfield 15, 3) := by decide +kernel
theorem d_PC_readBody_142 : decode M_PC_readBody.2.1 142 = .ok (.iinc 1 1, 3) := by decide +kernel
theorem d_PC_readBody_145 : decode M_PC_readBody.2.1 145 = .ok (.goto 15, 3) := by decide +kernel
theorem d_PC_readBody_148 : decode M_PC_readBody.2.1 148 = .ok (.ldc 96, 2) := by decide +kernel
theorem d_PC_readBody_150 : decode M_PC_readBody.2.1 150 = .ok (.iload 5, 2) := by decide +kernel
theorem d_PC_readBody_152 : decode M_PC_readBody.2.1 152 = .ok (.invokestatic 63, 3) := by decide +kernel
theorem d_PC_readBody_155 : decode M_PC_readBody.2.1 155 = .ok (.ifCond .ne 5, 3) := by decide +kernel
theorem d_PC_readBody_158 : decode M_PC_readBody.2.1 158 = .ok (.iconst 0, 1) := by decide +kernel
theorem d_PC_readBody_159 : decode M_PC_readBody.2.1 159 = .ok (.ireturn, 1) := by decide +kernel
theorem d_PC_readBody_160 : decode M_PC_readBody.2.1 160 = .ok (.iinc 4 1, 3) := by decide +kernel
theorem d_PC_readBody_163 : decode M_PC_readBody.2.1 163 = .ok (.goto (-110), 3) := by decide +kernel
theorem d_PC_readBody_166 : decode M_PC_readBody.2.1 166 = .ok (.aload_n 0, 1) := by decide +kernel
theorem d_PC_readBody_167 : decode M_PC_readBody.2.1 167 = .ok (.ldc 101, 2) := by decide +kernel
theorem d_PC_readBody_169 : decode M_PC_readBody.2.1 169 = .ok (.aload_n 0, 1) := by decide +kernel
theorem d_PC_readBody_170 : decode M_PC_readBody.2.1 170 = .ok (.getfield 15, 3) := by decide +kernel
theorem d_PC_readBody_173 : decode M_PC_readBody.2.1 173 = .ok (.invokestatic 63, 3) := by decide +kernel
theorem d_PC_readBody_176 : decode M_PC_readBody.2.1 176 = .ok (.putfield 103, 3) := by decide +kernel
theorem d_PC_readBody_179 : decode M_PC_readBody.2.1 179 = .ok (.aload_n 0, 1) := by decide +kernel
theorem d_PC_readBody_180 : decode M_PC_readBody.2.1 180 = .ok (.iload_n 2, 1) := by decide +kernel
theorem d_PC_readBody_181 : decode M_PC_readBody.2.1 181 = .ok (.iload_n 1, 1) := by decide +kernel
theorem d_PC_readBody_182 : decode M_PC_readBody.2.1 182 = .ok (.iadd, 1) := by decide +kernel
theorem d_PC_readBody_183 : decode M_PC_readBody.2.1 183 = .ok (.aload_n 0, 1) := by decide +kernel
theorem d_PC_readBody_184 : decode M_PC_readBody.2.1 184 = .ok (.getfield 103, 3) := by decide +kernel
theorem d_PC_readBody_187 : decode M_PC_readBody.2.1 187 = .ok (.ifCond .eq 7, 3) := by decide +kernel
theorem d_PC_readBody_190 : decode M_PC_readBody.2.1 190 = .ok (.iconst 1, 1) := by decide +kernel
theorem d_PC_readBody_191 : decode M_PC_readBody.2.1 191 = .ok (.goto 4, 3) := by decide +kernel
theorem d_PC_readBody_194 : decode M_PC_readBody.2.1 194 = .ok (.iconst 0, 1) := by decide +kernel
theorem d_PC_readBody_195 : decode M_PC_readBody.2.1 195 = .ok (.isub, 1) := by decide +kernel
theorem d_PC_readBody_196 : decode M_PC_readBody.2.1 196 = .ok (.putfield 41, 3) := by decide +kernel
theorem d_PC_readBody_199 : decode M_PC_readBody.2.1 199 = .ok (.iload_n 3, 1) := by decide +kernel
theorem d_PC_readBody_200 : decode M_PC_readBody.2.1 200 = .ok (.ifCond .eq 10, 3) := by decide +kernel
theorem d_PC_readBody_203 : decode M_PC_readBody.2.1 203 = .ok (.aload_n 0, 1) := by decide +kernel
theorem d_PC_readBody_204 : decode M_PC_readBody.2.1 204 = .ok (.getfield 71, 3) := by decide +kernel
theorem d_PC_readBody_207 : decode M_PC_readBody.2.1 207 = .ok (.ifCond .le 19, 3) := by decide +kernel
theorem d_PC_readBody_210 : decode M_PC_readBody.2.1 210 = .ok (.aload_n 0, 1) := by decide +kernel
theorem d_PC_readBody_211 : decode M_PC_readBody.2.1 211 = .ok (.getfield 103, 3) := by decide +kernel
theorem d_PC_readBody_214 : decode M_PC_readBody.2.1 214 = .ok (.ifCond .eq 8, 3) := by decide +kernel
theorem d_PC_readBody_217 : decode M_PC_readBody.2.1 217 = .ok (.iload_n 1, 1) := by decide +kernel
theorem d_PC_readBody_218 : decode M_PC_readBody.2.1 218 = .ok (.iconst 2, 1) := by decide +kernel
theorem d_PC_readBody_219 : decode M_PC_readBody.2.1 219 = .ok (.if_icmp .lt 7, 3) := by decide +kernel
theorem d_PC_readBody_222 : decode M_PC_readBody.2.1 222 = .ok (.iconst 1, 1) := by decide +kernel
theorem d_PC_readBody_223 : decode M_PC_readBody.2.1 223 = .ok (.goto 4, 3) := by decide +kernel
theorem d_PC_readBody_226 : decode M_PC_readBody.2.1 226 = .ok (.iconst 0, 1) := by decide +kernel
theorem d_PC_readBody_227 : decode M_PC_readBody.2.1 227 = .ok (.ireturn, 1) := by decide +kernel
theorem d_PC_isNextFiller_0 : decode M_PC_isNextFiller.2.1 0 = .ok (.ldc 106, 2) := by decide +kernel
theorem d_PC_isNextFiller_2 : decode M_PC_isNextFiller.2.1 2 = .ok (.iload_n 1, 1) := by decide +kernel
theorem d_PC_isNextFiller_3 : decode M_PC_isNextFiller.2.1 3 = .ok (.invokestatic 63, 3) := by decide +kernel
theorem d_PC_isNextFiller_6 : decode M_PC_isNextFiller.2.1 6 = .ok (.ifCond .eq 19, 3) := by decide +kernel
theorem d_PC_isNextFiller_9 : decode M_PC_isNextFiller.2.1 9 = .ok (.iload_n 2, 1) := by decide +kernel
theorem d_PC_isNextFiller_10 : decode M_PC_isNextFiller.2.1 10 = .ok (.ifCond .eq 11, 3) := by decide +kernel
theorem d_PC_isNextFiller_13 : decode M_PC_isNextFiller.2.1 13 = .ok (.iload_n 1, 1) := by decide +kernel
theorem d_PC_isNextFiller_14 : decode M_PC_isNextFiller.2.1 14 = .ok (.aload_n 0, 1) := by decide +kernel
theorem d_PC_isNextFiller_15 : decode M_PC_isNextFiller.2.1 15 = .ok (.getfield 15, 3) := by decide +kernel
theorem d_PC_isNextFiller_18 : decode M_PC_isNextFiller.2.1 18 = .ok (.if_icmp .ne 7, 3) := by decide +kernel
theorem d_PC_isNextFiller_21 : decode M_PC_isNextFiller.2.1 21 = .ok (.iconst 1, 1) := by decide +kernel
theorem d_PC_isNextFiller_22 : decode M_PC_isNextFiller.2.1 22 = .ok (.goto 4, 3) := by decide +kernel
theorem d_PC_isNextFiller_25 : decode M_PC_isNextFiller.2.1 25 = .ok (.iconst 0, 1) := by decide +kernel
theorem d_PC_isNextFiller_26 : decode M_PC_isNextFiller.2.1 26 = .ok (.ireturn, 1) := by decide +kernel
theorem d_PC_goesWith_0 : decode M_PC_goesWith.2.1 0 = .ok (.iload_n 1, 1) := by decide +kernel
theorem d_PC_goesWith_1 : decode M_PC_goesWith.2.1 1 = .ok (.ifCond .lt 19, 3) := by decide +kernel
theorem d_PC_goesWith_4 : decode M_PC_goesWith.2.1 4 = .ok (.iload_n 1, 1) := by decide +kernel
theorem d_PC_goesWith_5 : decode M_PC_goesWith.2.1 5 = .ok (.iconst 3, 1) := by decide +kernel
theorem d_PC_goesWith_6 : decode M_PC_goesWith.2.1 6 = .ok (.if_icmp .gt 14, 3) := by decide +kernel
theorem d_PC_goesWith_9 : decode M_PC_goesWith.2.1 9 = .ok (.aload_n 0, 1) := by decide +kernel
theorem d_PC_goesWith_10 : decode M_PC_goesWith.2.1 10 = .ok (.getfield 30, 3) := by decide +kernel
theorem d_PC_goesWith_13 : decode M_PC_goesWith.2.1 13 = .ok (.ifCond .eq 9, 3) := by decide +kernel
theorem d_PC_goesWith_16 : decode M_PC_goesWith.2.1 16 = .ok (.iload_n 1, 1) := by decide +kernel
theorem d_PC_goesWith_17 : decode M_PC_goesWith.2.1 17 = .ok (.ifCond .eq 5, 3) := by decide +kernel
theorem d_PC_goesWith_20 : decode M_PC_goesWith.2.1 20 = .ok (.iconst 0, 1) := by decide +kernel
theorem d_PC_goesWith_21 : decode M_PC_goesWith.2.1 21 = .ok (.ireturn, 1) := by decide +kernel
theorem d_PC_goesWith_22 : decode M_PC_goesWith.2.1 22 = .ok (.aload_n 0, 1) := by decide +kernel
theorem d_PC_goesWith_23 : decode M_PC_goesWith.2.1 23 = .ok (.getfield 34, 3) := by decide +kernel
theorem d_PC_goesWith_26 : decode M_PC_goesWith.2.1 26 = .ok (.ifCond .ne 8, 3) := by decide +kernel
theorem d_PC_goesWith_29 : decode M_PC_goesWith.2.1 29 = .ok (.iload_n 1, 1) := by decide +kernel
theorem d_PC_goesWith_30 : decode M_PC_goesWith.2.1 30 = .ok (.iconst 2, 1) := by decide +kernel
theorem d_PC_goesWith_31 : decode M_PC_goesWith.2.1 31 = .ok (.if_icmp .eq 7, 3) := by decide +kernel
theorem d_PC_goesWith_34 : decode M_PC_goesWith.2.1 34 = .ok (.iconst 1, 1) := by decide +kernel
theorem d_PC_goesWith_35 : decode M_PC_goesWith.2.1 35 = .ok (.goto 4, 3) := by decide +kernel
theorem d_PC_goesWith_38 : decode M_PC_goesWith.2.1 38 = .ok (.iconst 0, 1) := by decide +kernel
theorem d_PC_goesWith_39 : decode M_PC_goesWith.2.1 39 = .ok (.ireturn, 1) := by decide +kernel
theorem d_PC_lengthAs_0 : decode M_PC_lengthAs.2.1 0 = .ok (.aload_n 0, 1) := by decide +kernel
theorem d_PC_lengthAs_1 : decode M_PC_lengthAs.2.1 1 = .ok (.getfield 30, 3) := by decide +kernel
theorem d_PC_lengthAs_4 : decode M_PC_lengthAs.2.1 4 = .ok (.ifCond .eq 8, 3) := by decide +kernel
theorem d_PC_lengthAs_7 : decode M_PC_lengthAs.2.1 7 = .ok (.aload_n 0, 1) := by decide +kernel
theorem d_PC_lengthAs_8 : decode M_PC_lengthAs.2.1 8 = .ok (.getfield 37, 3) := by decide +kernel
theorem d_PC_lengthAs_11 : decode M_PC_lengthAs.2.1 11 = .ok (.ireturn, 1) := by decide +kernel
theorem d_PC_lengthAs_12 : decode M_PC_lengthAs.2.1 12 = .ok (.iload_n 1, 1) := by decide +kernel
theorem d_PC_lengthAs_13 : decode M_PC_lengthAs.2.1 13 = .ok (.tableswitch 57 1 3 #[27, 36, 43], 27) := by decide +kernel
theorem d_PC_lengthAs_40 : decode M_PC_lengthAs.2.1 40 = .ok (.aload_n 0, 1) := by decide +kernel
theorem d_PC_lengthAs_41 : decode M_PC_lengthAs.2.1 41 = .ok (.getfield 41, 3) := by decide +kernel
theorem d_PC_lengthAs_44 : decode M_PC_lengthAs.2.1 44 = .ok (.iconst 2, 1) := by decide +kernel
theorem d_PC_lengthAs_45 : decode M_PC_lengthAs.2.1 45 = .ok (.idiv, 1) := by decide +kernel
theorem d_PC_lengthAs_46 : decode M_PC_lengthAs.2.1 46 = .ok (.iconst 1, 1) := by decide +kernel
theorem d_PC_lengthAs_47 : decode M_PC_lengthAs.2.1 47 = .ok (.iadd, 1) := by decide +kernel
theorem d_PC_lengthAs_48 : decode M_PC_lengthAs.2.1 48 = .ok (.ireturn, 1) := by decide +kernel
theorem d_PC_lengthAs_49 : decode M_PC_lengthAs.2.1 49 = .ok (.aload_n 0, 1) := by decide +kernel
theorem d_PC_lengthAs_50 : decode M_PC_lengthAs.2.1 50 = .ok (.getfield 41, 3) := by decide +kernel
theorem d_PC_lengthAs_53 : decode M_PC_lengthAs.2.1 53 = .ok (.iconst 1, 1) := by decide +kernel
theorem d_PC_lengthAs_54 : decode M_PC_lengthAs.2.1 54 = .ok (.iadd, 1) := by decide +kernel
theorem d_PC_lengthAs_55 : decode M_PC_lengthAs.2.1 55 = .ok (.ireturn, 1) := by decide +kernel
theorem d_PC_lengthAs_56 : decode M_PC_lengthAs.2.1 56 = .ok (.aload_n 0, 1) := by decide +kernel
theorem d_PC_lengthAs_57 : decode M_PC_lengthAs.2.1 57 = .ok (.getfield 41, 3) := by decide +kernel
theorem d_PC_lengthAs_60 : decode M_PC_lengthAs.2.1 60 = .ok (.iconst 4, 1) := by decide +kernel
theorem d_PC_lengthAs_61 : decode M_PC_lengthAs.2.1 61 = .ok (.if_icmp .gt 7, 3) := by decide +kernel
theorem d_PC_lengthAs_64 : decode M_PC_lengthAs.2.1 64 = .ok (.iconst 2, 1) := by decide +kernel
theorem d_PC_lengthAs_65 : decode M_PC_lengthAs.2.1 65 = .ok (.goto 4, 3) := by decide +kernel
theorem d_PC_lengthAs_68 : decode M_PC_lengthAs.2.1 68 = .ok (.iconst 4, 1) := by decide +kernel
theorem d_PC_lengthAs_69 : decode M_PC_lengthAs.2.1 69 = .ok (.ireturn, 1) := by decide +kernel
theorem d_PC_lengthAs_70 : decode M_PC_lengthAs.2.1 70 = .ok (.aload_n 0, 1) := by decide +kernel
theorem d_PC_lengthAs_71 : decode M_PC_lengthAs.2.1 71 = .ok (.getfield 41, 3) := by decide +kernel
theorem d_PC_lengthAs_74 : decode M_PC_lengthAs.2.1 74 = .ok (.ireturn, 1) := by decide +kernel
theorem d_FD_init_0 : decode M_FD_init.2.1 0 = .ok (.aload_n 0, 1) := by decide +kernel
theorem d_FD_init_1 : decode M_FD_init.2.1 1 = .ok (.invokespecial 3, 3) := by decide +kernel
theorem d_FD_init_4 : decode M_FD_init.2.1 4 = .ok (.aload_n 0, 1) := by decide +kernel
theorem d_FD_init_5 : decode M_FD_init.2.1 5 = .ok (.aload_n 1, 1) := by decide +kernel
theorem d_FD_init_6 : decode M_FD_init.2.1 6 = .ok (.putfield 9, 3) := by decide +kernel
theorem d_FD_init_9 : decode M_FD_init.2.1 9 = .ok (.aload_n 0, 1) := by decide +kernel
theorem d_FD_init_10 : decode M_FD_init.2.1 10 = .ok (.aload_n 1, 1) := by decide +kernel
theorem d_FD_init_11 : decode M_FD_init.2.1 11 = .ok (.getfield 15, 3) := by decide +kernel
theorem d_FD_init_14 : decode M_FD_init.2.1 14 = .ok (.ifCond .eq 7, 3) := by decide +kernel
theorem d_FD_init_17 : decode M_FD_init.2.1 17 = .ok (.iconst 4, 1) := by decide +kernel
theorem d_FD_init_18 : decode M_FD_init.2.1 18 = .ok (.goto 4, 3) := by decide +kernel
theorem d_FD_init_21 : decode M_FD_init.2.1 21 = .ok (.iload_n 2, 1) := by decide +kernel
theorem d_FD_init_22 : decode M_FD_init.2.1 22 = .ok (.putfield 21, 3) := by decide +kernel
theorem d_FD_init_25 : decode M_FD_init.2.1 25 = .ok (.aload_n 0, 1) := by decide +kernel
theorem d_FD_init_26 : decode M_FD_init.2.1 26 = .ok (.iload_n 3, 1) := by decide +kernel
theorem d_FD_init_27 : decode M_FD_init.2.1 27 = .ok (.putfield 25, 3) := by decide +kernel
theorem d_FD_init_30 : decode M_FD_init.2.1 30 = .ok (.aload_n 0, 1) := by decide +kernel
theorem d_FD_init_31 : decode M_FD_init.2.1 31 = .ok (.iload 4, 2) := by decide +kernel
theorem d_FD_init_33 : decode M_FD_init.2.1 33 = .ok (.putfield 28, 3) := by decide +kernel
theorem d_FD_init_36 : decode M_FD_init.2.1 36 = .ok (.aload_n 0, 1) := by decide +kernel
theorem d_FD_init_37 : decode M_FD_init.2.1 37 = .ok (.aload_n 1, 1) := by decide +kernel
theorem d_FD_init_38 : decode M_FD_init.2.1 38 = .ok (.getfield 31, 3) := by decide +kernel
theorem d_FD_init_41 : decode M_FD_init.2.1 41 = .ok (.putfield 34, 3) := by decide +kernel
theorem d_FD_init_44 : decode M_FD_init.2.1 44 = .ok (.aload_n 0, 1) := by decide +kernel
theorem d_FD_init_45 : decode M_FD_init.2.1 45 = .ok (.aload_n 1, 1) := by decide +kernel
theorem d_FD_init_46 : decode M_FD_init.2.1 46 = .ok (.getfield 35, 3) := by decide +kernel
theorem d_FD_init_49 : decode M_FD_init.2.1 49 = .ok (.putfield 38, 3) := by decide +kernel
theorem d_FD_init_52 : decode M_FD_init.2.1 52 = .ok (.aload_n 0, 1) := by decide +kernel
theorem d_FD_init_53 : decode M_FD_init.2.1 53 = .ok (.aload_n 1, 1) := by decide +kernel
theorem d_FD_init_54 : decode M_FD_init.2.1 54 = .ok (.getfield 39, 3) := by decide +kernel
theorem d_FD_init_57 : decode M_FD_init.2.1 57 = .ok (.putfield 42, 3) := by decide +kernel
theorem d_FD_init_60 : decode M_FD_init.2.1 60 = .ok (.return_, 1) := by decide +kernel
theorem d_PR_fields_0 : decode M_PR_fields.2.1 0 = .ok (.aload_n 0, 1) := by decide +kernel
theorem d_PR_fields_1 : decode M_PR_fields.2.1 1 = .ok (.getfield 53, 3) := by decide +kernel
theorem d_PR_fields_4 : decode M_PR_fields.2.1 4 = .ok (.ireturn, 1) := by decide +kernel
theorem d_PR_size_0 : decode M_PR_size.2.1 0 = .ok (.aload_n 0, 1) := by decide +kernel
theorem d_PR_size_1 : decode M_PR_size.2.1 1 = .ok (.iload_n 1, 1) := by decide +kernel
theorem d_PR_size_2 : decode M_PR_size.2.1 2 = .ok (.invokevirtual 59, 3) := by decide +kernel
theorem d_PR_size_5 : decode M_PR_size.2.1 5 = .ok (.astore_n 2, 1) := by decide +kernel
theorem d_PR_size_6 : decode M_PR_size.2.1 6 = .ok (.aload_n 2, 1) := by decide +kernel
theorem d_PR_size_7 : decode M_PR_size.2.1 7 = .ok (.ifnonnull 7, 3) := by decide +kernel
theorem d_PR_size_10 : decode M_PR_size.2.1 10 = .ok (.iconst (-1), 1) := by decide +kernel
theorem d_PR_size_11 : decode M_PR_size.2.1 11 = .ok (.goto 7, 3) := by decide +kernel
theorem d_PR_size_14 : decode M_PR_size.2.1 14 = .ok (.aload_n 2, 1) := by decide +kernel
theorem d_PR_size_15 : decode M_PR_size.2.1 15 = .ok (.getfield 63, 3) := by decide +kernel
theorem d_PR_size_18 : decode M_PR_size.2.1 18 = .ok (.ireturn, 1) := by decide +kernel
theorem d_PR_fieldAt_0 : decode M_PR_fieldAt.2.1 0 = .ok (.iload_n 1, 1) := by decide +kernel
theorem d_PR_fieldAt_1 : decode M_PR_fieldAt.2.1 1 = .ok (.ifCond .lt 20, 3) := by decide +kernel
theorem d_PR_fieldAt_4 : decode M_PR_fieldAt.2.1 4 = .ok (.iload_n 1, 1) := by decide +kernel
theorem d_PR_fieldAt_5 : decode M_PR_fieldAt.2.1 5 = .ok (.aload_n 0, 1) := by decide +kernel
theorem d_PR_fieldAt_6 : decode M_PR_fieldAt.2.1 6 = .ok (.getfield 53, 3) := by decide +kernel
theorem d_PR_fieldAt_9 : decode M_PR_fieldAt.2.1 9 = .ok (.if_icmp .ge 12, 3) := by decide +kernel
theorem d_PR_fieldAt_12 : decode M_PR_fieldAt.2.1 12 = .ok (.aload_n 0, 1) := by decide +kernel
theorem d_PR_fieldAt_13 : decode M_PR_fieldAt.2.1 13 = .ok (.getfield 22, 3) := by decide +kernel
theorem d_PR_fieldAt_16 : decode M_PR_fieldAt.2.1 16 = .ok (.iload_n 1, 1) := by decide +kernel
theorem d_PR_fieldAt_17 : decode M_PR_fieldAt.2.1 17 = .ok (.aaload, 1) := by decide +kernel
theorem d_PR_fieldAt_18 : decode M_PR_fieldAt.2.1 18 = .ok (.goto 4, 3) := by decide +kernel
theorem d_PR_fieldAt_21 : decode M_PR_fieldAt.2.1 21 = .ok (.aconst_null, 1) := by decide +kernel
theorem d_PR_fieldAt_22 : decode M_PR_fieldAt.2.1 22 = .ok (.areturn, 1) := by decide +kernel
theorem d_PR_shape_0 : decode M_PR_shape.2.1 0 = .ok (.aload_n 0, 1) := by decide +kernel
theorem d_PR_shape_1 : decode M_PR_shape.2.1 1 = .ok (.iload_n 1, 1) := by decide +kernel
theorem d_PR_shape_2 : decode M_PR_shape.2.1 2 = .ok (.invokevirtual 59, 3) := by decide +kernel
