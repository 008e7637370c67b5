theorem dR_init_0 : decode cR_init 0 = .ok (.aload_n 0, 1) := by decide +kernel
theorem dR_init_1 : decode cR_init 1 = .ok (.invokespecial 3, 3) := by decide +kernel
theorem dR_init_4 : decode cR_init 4 = .ok (.aload_n 0, 1) := by decide +kernel
theorem dR_init_5 : decode cR_init 5 = .ok (.bipush 61, 2) := by decide +kernel
theorem dR_init_7 : decode cR_init 7 = .ok (.newarray .int, 2) := by decide +kernel
theorem dR_init_9 : decode cR_init 9 = .ok (.putfield 11, 3) := by decide +kernel
theorem dR_init_12 : decode cR_init 12 = .ok (.aload_n 0, 1) := by decide +kernel
theorem dR_init_13 : decode cR_init 13 = .ok (.bipush 61, 2) := by decide +kernel
theorem dR_init_15 : decode cR_init 15 = .ok (.newarray .int, 2) := by decide +kernel
theorem dR_init_17 : decode cR_init 17 = .ok (.putfield 15, 3) := by decide +kernel
theorem dR_init_20 : decode cR_init 20 = .ok (.aload_n 0, 1) := by decide +kernel
theorem dR_init_21 : decode cR_init 21 = .ok (.iconst 0, 1) := by decide +kernel
theorem dR_init_22 : decode cR_init 22 = .ok (.putfield 18, 3) := by decide +kernel
theorem dR_init_25 : decode cR_init 25 = .ok (.aload_n 0, 1) := by decide +kernel
theorem dR_init_26 : decode cR_init 26 = .ok (.iconst 0, 1) := by decide +kernel
theorem dR_init_27 : decode cR_init 27 = .ok (.putfield 22, 3) := by decide +kernel
theorem dR_init_30 : decode cR_init 30 = .ok (.aload_n 0, 1) := by decide +kernel
theorem dR_init_31 : decode cR_init 31 = .ok (.iconst 0, 1) := by decide +kernel
theorem dR_init_32 : decode cR_init 32 = .ok (.putfield 25, 3) := by decide +kernel
theorem dR_init_35 : decode cR_init 35 = .ok (.aload_n 0, 1) := by decide +kernel
theorem dR_init_36 : decode cR_init 36 = .ok (.iconst 0, 1) := by decide +kernel
theorem dR_init_37 : decode cR_init 37 = .ok (.putfield 28, 3) := by decide +kernel
theorem dR_init_40 : decode cR_init 40 = .ok (.aload_n 0, 1) := by decide +kernel
theorem dR_init_41 : decode cR_init 41 = .ok (.iconst (-1), 1) := by decide +kernel
theorem dR_init_42 : decode cR_init 42 = .ok (.putfield 31, 3) := by decide +kernel
theorem dR_init_45 : decode cR_init 45 = .ok (.aload_n 0, 1) := by decide +kernel
theorem dR_init_46 : decode cR_init 46 = .ok (.aload_n 1, 1) := by decide +kernel
theorem dR_init_47 : decode cR_init 47 = .ok (.putfield 34, 3) := by decide +kernel
theorem dR_init_50 : decode cR_init 50 = .ok (.aload_n 0, 1) := by decide +kernel
theorem dR_init_51 : decode cR_init 51 = .ok (.aload_n 2, 1) := by decide +kernel
theorem dR_init_52 : decode cR_init 52 = .ok (.putfield 38, 3) := by decide +kernel
theorem dR_init_55 : decode cR_init 55 = .ok (.return_, 1) := by decide +kernel
theorem dR_readTerm_0 : decode cR_readTerm 0 = .ok (.aload_n 0, 1) := by decide +kernel
theorem dR_readTerm_1 : decode cR_readTerm 1 = .ok (.getfield 25, 3) := by decide +kernel
theorem dR_readTerm_4 : decode cR_readTerm 4 = .ok (.aload_n 0, 1) := by decide +kernel
theorem dR_readTerm_5 : decode cR_readTerm 5 = .ok (.getfield 34, 3) := by decide +kernel
theorem dR_readTerm_8 : decode cR_readTerm 8 = .ok (.getfield 42, 3) := by decide +kernel
theorem dR_readTerm_11 : decode cR_readTerm 11 = .ok (.if_icmp .lt 5, 3) := by decide +kernel
theorem dR_readTerm_14 : decode cR_readTerm 14 = .ok (.iconst (-1), 1) := by decide +kernel
theorem dR_readTerm_15 : decode cR_readTerm 15 = .ok (.ireturn, 1) := by decide +kernel
theorem dR_readTerm_16 : decode cR_readTerm 16 = .ok (.aload_n 0, 1) := by decide +kernel
theorem dR_readTerm_17 : decode cR_readTerm 17 = .ok (.iconst 0, 1) := by decide +kernel
theorem dR_readTerm_18 : decode cR_readTerm 18 = .ok (.putfield 28, 3) := by decide +kernel
theorem dR_readTerm_21 : decode cR_readTerm 21 = .ok (.aload_n 0, 1) := by decide +kernel
theorem dR_readTerm_22 : decode cR_readTerm 22 = .ok (.iconst (-1), 1) := by decide +kernel
theorem dR_readTerm_23 : decode cR_readTerm 23 = .ok (.putfield 31, 3) := by decide +kernel
theorem dR_readTerm_26 : decode cR_readTerm 26 = .ok (.aload_n 0, 1) := by decide +kernel
theorem dR_readTerm_27 : decode cR_readTerm 27 = .ok (.aload_n 0, 1) := by decide +kernel
theorem dR_readTerm_28 : decode cR_readTerm 28 = .ok (.getfield 25, 3) := by decide +kernel
theorem dR_readTerm_31 : decode cR_readTerm 31 = .ok (.putfield 22, 3) := by decide +kernel
theorem dR_readTerm_34 : decode cR_readTerm 34 = .ok (.aload_n 0, 1) := by decide +kernel
theorem dR_readTerm_35 : decode cR_readTerm 35 = .ok (.iconst 0, 1) := by decide +kernel
theorem dR_readTerm_36 : decode cR_readTerm 36 = .ok (.putfield 18, 3) := by decide +kernel
theorem dR_readTerm_39 : decode cR_readTerm 39 = .ok (.aload_n 0, 1) := by decide +kernel
theorem dR_readTerm_40 : decode cR_readTerm 40 = .ok (.iconst 1, 1) := by decide +kernel
theorem dR_readTerm_41 : decode cR_readTerm 41 = .ok (.iconst 1, 1) := by decide +kernel
theorem dR_readTerm_42 : decode cR_readTerm 42 = .ok (.iconst 0, 1) := by decide +kernel
theorem dR_readTerm_43 : decode cR_readTerm 43 = .ok (.invokevirtual 47, 3) := by decide +kernel
theorem dR_readTerm_46 : decode cR_readTerm 46 = .ok (.aload_n 0, 1) := by decide +kernel
theorem dR_readTerm_47 : decode cR_readTerm 47 = .ok (.getfield 38, 3) := by decide +kernel
theorem dR_readTerm_50 : decode cR_readTerm 50 = .ok (.getfield 51, 3) := by decide +kernel
theorem dR_readTerm_53 : decode cR_readTerm 53 = .ok (.istore_n 1, 1) := by decide +kernel
theorem dR_readTerm_54 : decode cR_readTerm 54 = .ok (.aload_n 0, 1) := by decide +kernel
theorem dR_readTerm_55 : decode cR_readTerm 55 = .ok (.getfield 38, 3) := by decide +kernel
theorem dR_readTerm_58 : decode cR_readTerm 58 = .ok (.getfield 51, 3) := by decide +kernel
theorem dR_readTerm_61 : decode cR_readTerm 61 = .ok (.istore_n 2, 1) := by decide +kernel
theorem dR_readTerm_62 : decode cR_readTerm 62 = .ok (.iload_n 2, 1) := by decide +kernel
theorem dR_readTerm_63 : decode cR_readTerm 63 = .ok (.sipush 200, 3) := by decide +kernel
theorem dR_readTerm_66 : decode cR_readTerm 66 = .ok (.if_icmp .gt 32, 3) := by decide +kernel
theorem dR_readTerm_69 : decode cR_readTerm 69 = .ok (.aload_n 0, 1) := by decide +kernel
theorem dR_readTerm_70 : decode cR_readTerm 70 = .ok (.getfield 18, 3) := by decide +kernel
theorem dR_readTerm_73 : decode cR_readTerm 73 = .ok (.ifCond .le 25, 3) := by decide +kernel
theorem dR_readTerm_76 : decode cR_readTerm 76 = .ok (.aload_n 0, 1) := by decide +kernel
theorem dR_readTerm_77 : decode cR_readTerm 77 = .ok (.getfield 28, 3) := by decide +kernel
theorem dR_readTerm_80 : decode cR_readTerm 80 = .ok (.ifCond .ne 18, 3) := by decide +kernel
theorem dR_readTerm_83 : decode cR_readTerm 83 = .ok (.aload_n 0, 1) := by decide +kernel
theorem dR_readTerm_84 : decode cR_readTerm 84 = .ok (.iload_n 2, 1) := by decide +kernel
theorem dR_readTerm_85 : decode cR_readTerm 85 = .ok (.invokevirtual 56, 3) := by decide +kernel
theorem dR_readTerm_88 : decode cR_readTerm 88 = .ok (.iload_n 2, 1) := by decide +kernel
theorem dR_readTerm_89 : decode cR_readTerm 89 = .ok (.iconst 1, 1) := by decide +kernel
theorem dR_readTerm_90 : decode cR_readTerm 90 = .ok (.iadd, 1) := by decide +kernel
theorem dR_readTerm_91 : decode cR_readTerm 91 = .ok (.istore_n 1, 1) := by decide +kernel
theorem dR_readTerm_92 : decode cR_readTerm 92 = .ok (.iinc 2 1, 3) := by decide +kernel
theorem dR_readTerm_95 : decode cR_readTerm 95 = .ok (.goto (-33), 3) := by decide +kernel
theorem dR_readTerm_98 : decode cR_readTerm 98 = .ok (.aload_n 0, 1) := by decide +kernel
theorem dR_readTerm_99 : decode cR_readTerm 99 = .ok (.getfield 28, 3) := by decide +kernel
theorem dR_readTerm_102 : decode cR_readTerm 102 = .ok (.ifCond .ne 19, 3) := by decide +kernel
theorem dR_readTerm_105 : decode cR_readTerm 105 = .ok (.aload_n 0, 1) := by decide +kernel
theorem dR_readTerm_106 : decode cR_readTerm 106 = .ok (.getfield 38, 3) := by decide +kernel
theorem dR_readTerm_109 : decode cR_readTerm 109 = .ok (.iload_n 1, 1) := by decide +kernel
theorem dR_readTerm_110 : decode cR_readTerm 110 = .ok (.invokevirtual 60, 3) := by decide +kernel
theorem dR_readTerm_113 : decode cR_readTerm 113 = .ok (.aload_n 0, 1) := by decide +kernel
theorem dR_readTerm_114 : decode cR_readTerm 114 = .ok (.aload_n 0, 1) := by decide +kernel
theorem dR_readTerm_115 : decode cR_readTerm 115 = .ok (.getfield 22, 3) := by decide +kernel
theorem dR_readTerm_118 : decode cR_readTerm 118 = .ok (.putfield 25, 3) := by decide +kernel
theorem dR_readTerm_121 : decode cR_readTerm 121 = .ok (.aload_n 0, 1) := by decide +kernel
theorem dR_readTerm_122 : decode cR_readTerm 122 = .ok (.getfield 28, 3) := by decide +kernel
theorem dR_readTerm_125 : decode cR_readTerm 125 = .ok (.ireturn, 1) := by decide +kernel
theorem dR_readNode_0 : decode cR_readNode 0 = .ok (.aload_n 0, 1) := by decide +kernel
theorem dR_readNode_1 : decode cR_readNode 1 = .ok (.getfield 22, 3) := by decide +kernel
theorem dR_readNode_4 : decode cR_readNode 4 = .ok (.istore_n 2, 1) := by decide +kernel
theorem dR_readNode_5 : decode cR_readNode 5 = .ok (.aload_n 0, 1) := by decide +kernel
theorem dR_readNode_6 : decode cR_readNode 6 = .ok (.invokevirtual 63, 3) := by decide +kernel
theorem dR_readNode_9 : decode cR_readNode 9 = .ok (.istore_n 3, 1) := by decide +kernel
theorem dR_readNode_10 : decode cR_readNode 10 = .ok (.aload_n 0, 1) := by decide +kernel
theorem dR_readNode_11 : decode cR_readNode 11 = .ok (.dup, 1) := by decide +kernel
theorem dR_readNode_12 : decode cR_readNode 12 = .ok (.getfield 18, 3) := by decide +kernel
theorem dR_readNode_15 : decode cR_readNode 15 = .ok (.iconst 1, 1) := by decide +kernel
theorem dR_readNode_16 : decode cR_readNode 16 = .ok (.isub, 1) := by decide +kernel
theorem dR_readNode_17 : decode cR_readNode 17 = .ok (.putfield 18, 3) := by decide +kernel
theorem dR_readNode_20 : decode cR_readNode 20 = .ok (.aload_n 0, 1) := by decide +kernel
theorem dR_readNode_21 : decode cR_readNode 21 = .ok (.getfield 11, 3) := by decide +kernel
theorem dR_readNode_24 : decode cR_readNode 24 = .ok (.aload_n 0, 1) := by decide +kernel
theorem dR_readNode_25 : decode cR_readNode 25 = .ok (.getfield 18, 3) := by decide +kernel
theorem dR_readNode_28 : decode cR_readNode 28 = .ok (.iaload, 1) := by decide +kernel
theorem dR_readNode_29 : decode cR_readNode 29 = .ok (.istore 4, 2) := by decide +kernel
theorem dR_readNode_31 : decode cR_readNode 31 = .ok (.aload_n 0, 1) := by decide +kernel
theorem dR_readNode_32 : decode cR_readNode 32 = .ok (.getfield 15, 3) := by decide +kernel
theorem dR_readNode_35 : decode cR_readNode 35 = .ok (.aload_n 0, 1) := by decide +kernel
theorem dR_readNode_36 : decode cR_readNode 36 = .ok (.getfield 18, 3) := by decide +kernel
theorem dR_readNode_39 : decode cR_readNode 39 = .ok (.iaload, 1) := by decide +kernel
theorem dR_readNode_40 : decode cR_readNode 40 = .ok (.istore 5, 2) := by decide +kernel
theorem dR_readNode_42 : decode cR_readNode 42 = .ok (.iload_n 3, 1) := by decide +kernel
theorem dR_readNode_43 : decode cR_readNode 43 = .ok (.invokestatic 67, 3) := by decide +kernel
theorem dR_readNode_46 : decode cR_readNode 46 = .ok (.ifCond .ne 9, 3) := by decide +kernel
theorem dR_readNode_49 : decode cR_readNode 49 = .ok (.aload_n 0, 1) := by decide +kernel
theorem dR_readNode_50 : decode cR_readNode 50 = .ok (.iconst 3, 1) := by decide +kernel
theorem dR_readNode_51 : decode cR_readNode 51 = .ok (.iload_n 2, 1) := by decide +kernel
theorem dR_readNode_52 : decode cR_readNode 52 = .ok (.invokevirtual 73, 3) := by decide +kernel
theorem dR_readNode_55 : decode cR_readNode 55 = .ok (.iload 4, 2) := by decide +kernel
theorem dR_readNode_57 : decode cR_readNode 57 = .ok (.bipush 60, 2) := by decide +kernel
theorem dR_readNode_59 : decode cR_readNode 59 = .ok (.if_icmp .le 9, 3) := by decide +kernel
theorem dR_readNode_62 : decode cR_readNode 62 = .ok (.aload_n 0, 1) := by decide +kernel
theorem dR_readNode_63 : decode cR_readNode 63 = .ok (.iconst 5, 1) := by decide +kernel
theorem dR_readNode_64 : decode cR_readNode 64 = .ok (.iload_n 2, 1) := by decide +kernel
theorem dR_readNode_65 : decode cR_readNode 65 = .ok (.invokevirtual 73, 3) := by decide +kernel
theorem dR_readNode_68 : decode cR_readNode 68 = .ok (.iload_n 1, 1) := by decide +kernel
theorem dR_readNode_69 : decode cR_readNode 69 = .ok (.sipush 200, 3) := by decide +kernel
theorem dR_readNode_72 : decode cR_readNode 72 = .ok (.if_icmp .lt 10, 3) := by decide +kernel
theorem dR_readNode_75 : decode cR_readNode 75 = .ok (.aload_n 0, 1) := by decide +kernel
theorem dR_readNode_76 : decode cR_readNode 76 = .ok (.bipush 6, 2) := by decide +kernel
theorem dR_readNode_78 : decode cR_readNode 78 = .ok (.iload_n 2, 1) := by decide +kernel
theorem dR_readNode_79 : decode cR_readNode 79 = .ok (.invokevirtual 73, 3) := by decide +kernel
theorem dR_readNode_82 : decode cR_readNode 82 = .ok (.aload_n 0, 1) := by decide +kernel
theorem dR_readNode_83 : decode cR_readNode 83 = .ok (.getfield 28, 3) := by decide +kernel
theorem dR_readNode_86 : decode cR_readNode 86 = .ok (.ifCond .ne 37, 3) := by decide +kernel
theorem dR_readNode_89 : decode cR_readNode 89 = .ok (.aload_n 0, 1) := by decide +kernel
theorem dR_readNode_90 : decode cR_readNode 90 = .ok (.iload_n 1, 1) := by decide +kernel
theorem dR_readNode_91 : decode cR_readNode 91 = .ok (.iload_n 3, 1) := by decide +kernel
theorem dR_readNode_92 : decode cR_readNode 92 = .ok (.iload 5, 2) := by decide +kernel
theorem dR_readNode_94 : decode cR_readNode 94 = .ok (.invokevirtual 77, 3) := by decide +kernel
theorem dR_readNode_97 : decode cR_readNode 97 = .ok (.aload_n 0, 1) := by decide +kernel
theorem dR_readNode_98 : decode cR_readNode 98 = .ok (.iload_n 3, 1) := by decide +kernel
theorem dR_readNode_99 : decode cR_readNode 99 = .ok (.invokestatic 80, 3) := by decide +kernel
theorem dR_readNode_102 : decode cR_readNode 102 = .ok (.iload 4, 2) := by decide +kernel
theorem dR_readNode_104 : decode cR_readNode 104 = .ok (.iconst 1, 1) := by decide +kernel
theorem dR_readNode_105 : decode cR_readNode 105 = .ok (.iadd, 1) := by decide +kernel
theorem dR_readNode_106 : decode cR_readNode 106 = .ok (.iload_n 3, 1) := by decide +kernel
theorem dR_readNode_107 : decode cR_readNode 107 = .ok (.iconst 1, 1) := by decide +kernel
theorem dR_readNode_108 : decode cR_readNode 108 = .ok (.if_icmp .ne 10, 3) := by decide +kernel
theorem dR_readNode_111 : decode cR_readNode 111 = .ok (.iload 5, 2) := by decide +kernel
theorem dR_readNode_113 : decode cR_readNode 113 = .ok (.iconst 1, 1) := by decide +kernel
theorem dR_readNode_114 : decode cR_readNode 114 = .ok (.iadd, 1) := by decide +kernel
theorem dR_readNode_115 : decode cR_readNode 115 = .ok (.goto 5, 3) := by decide +kernel
theorem dR_readNode_118 : decode cR_readNode 118 = .ok (.iload 5, 2) := by decide +kernel
theorem dR_readNode_120 : decode cR_readNode 120 = .ok (.invokevirtual 47, 3) := by decide +kernel
theorem dR_readNode_123 : decode cR_readNode 123 = .ok (.return_, 1) := by decide +kernel
theorem dR_readNumber_0 : decode cR_readNumber 0 = .ok (.aload_n 0, 1) := by decide +kernel
theorem dR_readNumber_1 : decode cR_readNumber 1 = .ok (.getfield 22, 3) := by decide +kernel
theorem dR_readNumber_4 : decode cR_readNumber 4 = .ok (.iconst 1, 1) := by decide +kernel
theorem dR_readNumber_5 : decode cR_readNumber 5 = .ok (.isub, 1) := by decide +kernel
theorem dR_readNumber_6 : decode cR_readNumber 6 = .ok (.istore 4, 2) := by decide +kernel
theorem dR_readNumber_8 : decode cR_readNumber 8 = .ok (.aload_n 0, 1) := by decide +kernel
theorem dR_readNumber_9 : decode cR_readNumber 9 = .ok (.iload_n 2, 1) := by decide +kernel
theorem dR_readNumber_10 : decode cR_readNumber 10 = .ok (.invokevirtual 84, 3) := by decide +kernel
theorem dR_readNumber_13 : decode cR_readNumber 13 = .ok (.lstore 5, 2) := by decide +kernel
theorem dR_readNumber_15 : decode cR_readNumber 15 = .ok (.iload_n 2, 1) := by decide +kernel
theorem dR_readNumber_16 : decode cR_readNumber 16 = .ok (.lload 5, 2) := by decide +kernel
theorem dR_readNumber_18 : decode cR_readNumber 18 = .ok (.invokestatic 88, 3) := by decide +kernel
theorem dR_readNumber_21 : decode cR_readNumber 21 = .ok (.ifCond .ne 14, 3) := by decide +kernel
theorem dR_readNumber_24 : decode cR_readNumber 24 = .ok (.aload_n 0, 1) := by decide +kernel
theorem dR_readNumber_25 : decode cR_readNumber 25 = .ok (.iconst 3, 1) := by decide +kernel
theorem dR_readNumber_26 : decode cR_readNumber 26 = .ok (.aload_n 0, 1) := by decide +kernel
theorem dR_readNumber_27 : decode cR_readNumber 27 = .ok (.getfield 22, 3) := by decide +kernel
theorem dR_readNumber_30 : decode cR_readNumber 30 = .ok (.iconst 1, 1) := by decide +kernel
theorem dR_readNumber_31 : decode cR_readNumber 31 = .ok (.isub, 1) := by decide +kernel
theorem dR_readNumber_32 : decode cR_readNumber 32 = .ok (.invokevirtual 73, 3) := by decide +kernel
theorem dR_readNumber_35 : decode cR_readNumber 35 = .ok (.iload_n 2, 1) := by decide +kernel
theorem dR_readNumber_36 : decode cR_readNumber 36 = .ok (.ifCond .ne 18, 3) := by decide +kernel
theorem dR_readNumber_39 : decode cR_readNumber 39 = .ok (.lload 5, 2) := by decide +kernel
theorem dR_readNumber_41 : decode cR_readNumber 41 = .ok (.iload_n 3, 1) := by decide +kernel
theorem dR_readNumber_42 : decode cR_readNumber 42 = .ok (.i2l, 1) := by decide +kernel
theorem dR_readNumber_43 : decode cR_readNumber 43 = .ok (.lcmp, 1) := by decide +kernel
theorem dR_readNumber_44 : decode cR_readNumber 44 = .ok (.ifCond .le 10, 3) := by decide +kernel
theorem dR_readNumber_47 : decode cR_readNumber 47 = .ok (.aload_n 0, 1) := by decide +kernel
theorem dR_readNumber_48 : decode cR_readNumber 48 = .ok (.iconst 4, 1) := by decide +kernel
theorem dR_readNumber_49 : decode cR_readNumber 49 = .ok (.iload 4, 2) := by decide +kernel
theorem dR_readNumber_51 : decode cR_readNumber 51 = .ok (.invokevirtual 73, 3) := by decide +kernel
theorem dR_readNumber_54 : decode cR_readNumber 54 = .ok (.aload_n 0, 1) := by decide +kernel
theorem dR_readNumber_55 : decode cR_readNumber 55 = .ok (.getfield 38, 3) := by decide +kernel
theorem dR_readNumber_58 : decode cR_readNumber 58 = .ok (.iload_n 1, 1) := by decide +kernel
theorem dR_readNumber_59 : decode cR_readNumber 59 = .ok (.iload_n 2, 1) := by decide +kernel
theorem dR_readNumber_60 : decode cR_readNumber 60 = .ok (.lload 5, 2) := by decide +kernel
theorem dR_readNumber_62 : decode cR_readNumber 62 = .ok (.invokevirtual 92, 3) := by decide +kernel
theorem dR_readNumber_65 : decode cR_readNumber 65 = .ok (.iload_n 2, 1) := by decide +kernel
theorem dR_readNumber_66 : decode cR_readNumber 66 = .ok (.bipush 8, 2) := by decide +kernel
theorem dR_readNumber_68 : decode cR_readNumber 68 = .ok (.if_icmp .ne 49, 3) := by decide +kernel
theorem dR_readNumber_71 : decode cR_readNumber 71 = .ok (.iconst 0, 1) := by decide +kernel
theorem dR_readNumber_72 : decode cR_readNumber 72 = .ok (.istore 7, 2) := by decide +kernel
theorem dR_readNumber_74 : decode cR_readNumber 74 = .ok (.iload 7, 2) := by decide +kernel
theorem dR_readNumber_76 : decode cR_readNumber 76 = .ok (.i2l, 1) := by decide +kernel
theorem dR_readNumber_77 : decode cR_readNumber 77 = .ok (.lload 5, 2) := by decide +kernel
theorem dR_readNumber_79 : decode cR_readNumber 79 = .ok (.lcmp, 1) := by decide +kernel
theorem dR_readNumber_80 : decode cR_readNumber 80 = .ok (.ifCond .ge 37, 3) := by decide +kernel
theorem dR_readNumber_83 : decode cR_readNumber 83 = .ok (.iload 7, 2) := by decide +kernel
theorem dR_readNumber_85 : decode cR_readNumber 85 = .ok (.bipush 64, 2) := by decide +kernel
theorem dR_readNumber_87 : decode cR_readNumber 87 = .ok (.if_icmp .ge 30, 3) := by decide +kernel
theorem dR_readNumber_90 : decode cR_readNumber 90 = .ok (.aload_n 0, 1) := by decide +kernel
theorem dR_readNumber_91 : decode cR_readNumber 91 = .ok (.getfield 28, 3) := by decide +kernel
theorem dR_readNumber_94 : decode cR_readNumber 94 = .ok (.ifCond .ne 23, 3) := by decide +kernel
theorem dR_readNumber_97 : decode cR_readNumber 97 = .ok (.aload_n 0, 1) := by decide +kernel
theorem dR_readNumber_98 : decode cR_readNumber 98 = .ok (.getfield 38, 3) := by decide +kernel
theorem dR_readNumber_101 : decode cR_readNumber 101 = .ok (.iload_n 1, 1) := by decide +kernel
theorem dR_readNumber_102 : decode cR_readNumber 102 = .ok (.iload 7, 2) := by decide +kernel
theorem dR_readNumber_104 : decode cR_readNumber 104 = .ok (.aload_n 0, 1) := by decide +kernel
theorem dR_readNumber_105 : decode cR_readNumber 105 = .ok (.invokevirtual 63, 3) := by decide +kernel
theorem dR_readNumber_108 : decode cR_readNumber 108 = .ok (.invokevirtual 96, 3) := by decide +kernel
theorem dR_readNumber_111 : decode cR_readNumber 111 = .ok (.iinc 7 1, 3) := by decide +kernel
theorem dR_readNumber_114 : decode cR_readNumber 114 = .ok (.goto (-40), 3) := by decide +kernel
theorem dR_readNumber_117 : decode cR_readNumber 117 = .ok (.return_, 1) := by decide +kernel
theorem dR_takeNumber_0 : decode cR_takeNumber 0 = .ok (.iload_n 1, 1) := by decide +kernel
theorem dR_takeNumber_1 : decode cR_takeNumber 1 = .ok (.tableswitch 71 0 9 #[55, 71, 71, 71, 71, 71, 65, 60, 65, 65], 55) := by decide +kernel
theorem dR_takeNumber_56 : decode cR_takeNumber 56 = .ok (.aload_n 0, 1) := by decide +kernel
theorem dR_takeNumber_57 : decode cR_takeNumber 57 = .ok (.invokevirtual 99, 3) := by decide +kernel
theorem dR_takeNumber_60 : decode cR_takeNumber 60 = .ok (.lreturn, 1) := by decide +kernel
theorem dR_takeNumber_61 : decode cR_takeNumber 61 = .ok (.aload_n 0, 1) := by decide +kernel
theorem dR_takeNumber_62 : decode cR_takeNumber 62 = .ok (.invokevirtual 103, 3) := by decide +kernel
theorem dR_takeNumber_65 : decode cR_takeNumber 65 = .ok (.lreturn, 1) := by decide +kernel
theorem dR_takeNumber_66 : decode cR_takeNumber 66 = .ok (.aload_n 0, 1) := by decide +kernel
theorem dR_takeNumber_67 : decode cR_takeNumber 67 = .ok (.invokevirtual 63, 3) := by decide +kernel
theorem dR_takeNumber_70 : decode cR_takeNumber 70 = .ok (.i2l, 1) := by decide +kernel
theorem dR_takeNumber_71 : decode cR_takeNumber 71 = .ok (.lreturn, 1) := by decide +kernel
theorem dR_takeNumber_72 : decode cR_takeNumber 72 = .ok (.lconst 0, 1) := by decide +kernel
theorem dR_takeNumber_73 : decode cR_takeNumber 73 = .ok (.lreturn, 1) := by decide +kernel
theorem dR_takeUnsigned_0 : decode cR_takeUnsigned 0 = .ok (.lconst 0, 1) := by decide +kernel
theorem dR_takeUnsigned_1 : decode cR_takeUnsigned 1 = .ok (.lstore_n 1, 1) := by decide +kernel
theorem dR_takeUnsigned_2 : decode cR_takeUnsigned 2 = .ok (.iconst 0, 1) := by decide +kernel
theorem dR_takeUnsigned_3 : decode cR_takeUnsigned 3 = .ok (.istore_n 3, 1) := by decide +kernel
theorem dR_takeUnsigned_4 : decode cR_takeUnsigned 4 = .ok (.sipush 128, 3) := by decide +kernel
theorem dR_takeUnsigned_7 : decode cR_takeUnsigned 7 = .ok (.istore 4, 2) := by decide +kernel
theorem dR_takeUnsigned_9 : decode cR_takeUnsigned 9 = .ok (.iload 4, 2) := by decide +kernel
theorem dR_takeUnsigned_11 : decode cR_takeUnsigned 11 = .ok (.sipush 128, 3) := by decide +kernel
theorem dR_takeUnsigned_14 : decode cR_takeUnsigned 14 = .ok (.if_icmp .lt 34, 3) := by decide +kernel
theorem dR_takeUnsigned_17 : decode cR_takeUnsigned 17 = .ok (.iload_n 3, 1) := by decide +kernel
theorem dR_takeUnsigned_18 : decode cR_takeUnsigned 18 = .ok (.iconst 5, 1) := by decide +kernel
theorem dR_takeUnsigned_19 : decode cR_takeUnsigned 19 = .ok (.if_icmp .ge 29, 3) := by decide +kernel
theorem dR_takeUnsigned_22 : decode cR_takeUnsigned 22 = .ok (.aload_n 0, 1) := by decide +kernel
theorem dR_takeUnsigned_23 : decode cR_takeUnsigned 23 = .ok (.invokevirtual 63, 3) := by decide +kernel
theorem dR_takeUnsigned_26 : decode cR_takeUnsigned 26 = .ok (.istore 4, 2) := by decide +kernel
theorem dR_takeUnsigned_28 : decode cR_takeUnsigned 28 = .ok (.lload_n 1, 1) := by decide +kernel
theorem dR_takeUnsigned_29 : decode cR_takeUnsigned 29 = .ok (.iload 4, 2) := by decide +kernel
theorem dR_takeUnsigned_31 : decode cR_takeUnsigned 31 = .ok (.bipush 127, 2) := by decide +kernel
theorem dR_takeUnsigned_33 : decode cR_takeUnsigned 33 = .ok (.iand, 1) := by decide +kernel
theorem dR_takeUnsigned_34 : decode cR_takeUnsigned 34 = .ok (.i2l, 1) := by decide +kernel
theorem dR_takeUnsigned_35 : decode cR_takeUnsigned 35 = .ok (.bipush 7, 2) := by decide +kernel
theorem dR_takeUnsigned_37 : decode cR_takeUnsigned 37 = .ok (.iload_n 3, 1) := by decide +kernel
theorem dR_takeUnsigned_38 : decode cR_takeUnsigned 38 = .ok (.imul, 1) := by decide +kernel
theorem dR_takeUnsigned_39 : decode cR_takeUnsigned 39 = .ok (.lshl, 1) := by decide +kernel
theorem dR_takeUnsigned_40 : decode cR_takeUnsigned 40 = .ok (.lor, 1) := by decide +kernel
theorem dR_takeUnsigned_41 : decode cR_takeUnsigned 41 = .ok (.lstore_n 1, 1) := by decide +kernel
theorem dR_takeUnsigned_42 : decode cR_takeUnsigned 42 = .ok (.iinc 3 1, 3) := by decide +kernel
theorem dR_takeUnsigned_45 : decode cR_takeUnsigned 45 = .ok (.goto (-36), 3) := by decide +kernel
theorem dR_takeUnsigned_48 : decode cR_takeUnsigned 48 = .ok (.iload 4, 2) := by decide +kernel
theorem dR_takeUnsigned_50 : decode cR_takeUnsigned 50 = .ok (.sipush 128, 3) := by decide +kernel
theorem dR_takeUnsigned_53 : decode cR_takeUnsigned 53 = .ok (.if_icmp .ge 19, 3) := by decide +kernel
theorem dR_takeUnsigned_56 : decode cR_takeUnsigned 56 = .ok (.lload_n 1, 1) := by decide +kernel
theorem dR_takeUnsigned_57 : decode cR_takeUnsigned 57 = .ok (.ldc2_w 106, 3) := by decide +kernel
theorem dR_takeUnsigned_60 : decode cR_takeUnsigned 60 = .ok (.lcmp, 1) := by decide +kernel
theorem dR_takeUnsigned_61 : decode cR_takeUnsigned 61 = .ok (.ifCond .gt 11, 3) := by decide +kernel
theorem dR_takeUnsigned_64 : decode cR_takeUnsigned 64 = .ok (.lload_n 1, 1) := by decide +kernel
theorem dR_takeUnsigned_65 : decode cR_takeUnsigned 65 = .ok (.invokestatic 108, 3) := by decide +kernel
theorem dR_takeUnsigned_68 : decode cR_takeUnsigned 68 = .ok (.iload_n 3, 1) := by decide +kernel
theorem dR_takeUnsigned_69 : decode cR_takeUnsigned 69 = .ok (.if_icmp .eq 14, 3) := by decide +kernel
theorem dR_takeUnsigned_72 : decode cR_takeUnsigned 72 = .ok (.aload_n 0, 1) := by decide +kernel
theorem dR_takeUnsigned_73 : decode cR_takeUnsigned 73 = .ok (.iconst 2, 1) := by decide +kernel
theorem dR_takeUnsigned_74 : decode cR_takeUnsigned 74 = .ok (.aload_n 0, 1) := by decide +kernel
theorem dR_takeUnsigned_75 : decode cR_takeUnsigned 75 = .ok (.getfield 22, 3) := by decide +kernel
theorem dR_takeUnsigned_78 : decode cR_takeUnsigned 78 = .ok (.iconst 1, 1) := by decide +kernel
theorem dR_takeUnsigned_79 : decode cR_takeUnsigned 79 = .ok (.isub, 1) := by decide +kernel
theorem dR_takeUnsigned_80 : decode cR_takeUnsigned 80 = .ok (.invokevirtual 73, 3) := by decide +kernel
theorem dR_takeUnsigned_83 : decode cR_takeUnsigned 83 = .ok (.lload_n 1, 1) := by decide +kernel
theorem dR_takeUnsigned_84 : decode cR_takeUnsigned 84 = .ok (.lreturn, 1) := by decide +kernel
theorem dR_takeSigned_0 : decode cR_takeSigned 0 = .ok (.lconst 0, 1) := by decide +kernel
theorem dR_takeSigned_1 : decode cR_takeSigned 1 = .ok (.lstore_n 1, 1) := by decide +kernel
theorem dR_takeSigned_2 : decode cR_takeSigned 2 = .ok (.iconst 0, 1) := by decide +kernel
theorem dR_takeSigned_3 : decode cR_takeSigned 3 = .ok (.istore_n 3, 1) := by decide +kernel
theorem dR_takeSigned_4 : decode cR_takeSigned 4 = .ok (.sipush 128, 3) := by decide +kernel
theorem dR_takeSigned_7 : decode cR_takeSigned 7 = .ok (.istore 4, 2) := by decide +kernel
theorem dR_takeSigned_9 : decode cR_takeSigned 9 = .ok (.iload 4, 2) := by decide +kernel
theorem dR_takeSigned_11 : decode cR_takeSigned 11 = .ok (.sipush 128, 3) := by decide +kernel
theorem dR_takeSigned_14 : decode cR_takeSigned 14 = .ok (.if_icmp .lt 35, 3) := by decide +kernel
theorem dR_takeSigned_17 : decode cR_takeSigned 17 = .ok (.iload_n 3, 1) := by decide +kernel
theorem dR_takeSigned_18 : decode cR_takeSigned 18 = .ok (.bipush 10, 2) := by decide +kernel
theorem dR_takeSigned_20 : decode cR_takeSigned 20 = .ok (.if_icmp .ge 29, 3) := by decide +kernel
theorem dR_takeSigned_23 : decode cR_takeSigned 23 = .ok (.aload_n 0, 1) := by decide +kernel
theorem dR_takeSigned_24 : decode cR_takeSigned 24 = .ok (.invokevirtual 63, 3) := by decide +kernel
theorem dR_takeSigned_27 : decode cR_takeSigned 27 = .ok (.istore 4, 2) := by decide +kernel
theorem dR_takeSigned_29 : decode cR_takeSigned 29 = .ok (.lload_n 1, 1) := by decide +kernel
theorem dR_takeSigned_30 : decode cR_takeSigned 30 = .ok (.iload 4, 2) := by decide +kernel
theorem dR_takeSigned_32 : decode cR_takeSigned 32 = .ok (.bipush 127, 2) := by decide +kernel
theorem dR_takeSigned_34 : decode cR_takeSigned 34 = .ok (.iand, 1) := by decide +kernel
theorem dR_takeSigned_35 : decode cR_takeSigned 35 = .ok (.i2l, 1) := by decide +kernel
theorem dR_takeSigned_36 : decode cR_takeSigned 36 = .ok (.bipush 7, 2) := by decide +kernel
theorem dR_takeSigned_38 : decode cR_takeSigned 38 = .ok (.iload_n 3, 1) := by decide +kernel
theorem dR_takeSigned_39 : decode cR_takeSigned 39 = .ok (.imul, 1) := by decide +kernel
theorem dR_takeSigned_40 : decode cR_takeSigned 40 = .ok (.lshl, 1) := by decide +kernel
theorem dR_takeSigned_41 : decode cR_takeSigned 41 = .ok (.lor, 1) := by decide +kernel
theorem dR_takeSigned_42 : decode cR_takeSigned 42 = .ok (.lstore_n 1, 1) := by decide +kernel
theorem dR_takeSigned_43 : decode cR_takeSigned 43 = .ok (.iinc 3 1, 3) := by decide +kernel
theorem dR_takeSigned_46 : decode cR_takeSigned 46 = .ok (.goto (-37), 3) := by decide +kernel
theorem dR_takeSigned_49 : decode cR_takeSigned 49 = .ok (.iload_n 3, 1) := by decide +kernel
theorem dR_takeSigned_50 : decode cR_takeSigned 50 = .ok (.bipush 10, 2) := by decide +kernel
theorem dR_takeSigned_52 : decode cR_takeSigned 52 = .ok (.if_icmp .ne 7, 3) := by decide +kernel
theorem dR_takeSigned_55 : decode cR_takeSigned 55 = .ok (.iconst 1, 1) := by decide +kernel
theorem dR_takeSigned_56 : decode cR_takeSigned 56 = .ok (.goto 4, 3) := by decide +kernel
theorem dR_takeSigned_59 : decode cR_takeSigned 59 = .ok (.iconst 0, 1) := by decide +kernel
theorem dR_takeSigned_60 : decode cR_takeSigned 60 = .ok (.istore 5, 2) := by decide +kernel
theorem dR_takeSigned_62 : decode cR_takeSigned 62 = .ok (.iload 5, 2) := by decide +kernel
theorem dR_takeSigned_64 : decode cR_takeSigned 64 = .ok (.ifCond .ne 22, 3) := by decide +kernel
theorem dR_takeSigned_67 : decode cR_takeSigned 67 = .ok (.iload 4, 2) := by decide +kernel
theorem dR_takeSigned_69 : decode cR_takeSigned 69 = .ok (.bipush 64, 2) := by decide +kernel
theorem dR_takeSigned_71 : decode cR_takeSigned 71 = .ok (.iand, 1) := by decide +kernel
theorem dR_takeSigned_72 : decode cR_takeSigned 72 = .ok (.ifCond .eq 14, 3) := by decide +kernel
theorem dR_takeSigned_75 : decode cR_takeSigned 75 = .ok (.lload_n 1, 1) := by decide +kernel
theorem dR_takeSigned_76 : decode cR_takeSigned 76 = .ok (.ldc2_w 112, 3) := by decide +kernel
theorem dR_takeSigned_79 : decode cR_takeSigned 79 = .ok (.bipush 7, 2) := by decide +kernel
theorem dR_takeSigned_81 : decode cR_takeSigned 81 = .ok (.iload_n 3, 1) := by decide +kernel
theorem dR_takeSigned_82 : decode cR_takeSigned 82 = .ok (.imul, 1) := by decide +kernel
theorem dR_takeSigned_83 : decode cR_takeSigned 83 = .ok (.lshl, 1) := by decide +kernel
theorem dR_takeSigned_84 : decode cR_takeSigned 84 = .ok (.lor, 1) := by decide +kernel
theorem dR_takeSigned_85 : decode cR_takeSigned 85 = .ok (.lstore_n 1, 1) := by decide +kernel
theorem dR_takeSigned_86 : decode cR_takeSigned 86 = .ok (.iload 5, 2) := by decide +kernel
theorem dR_takeSigned_88 : decode cR_takeSigned 88 = .ok (.ifCond .eq 15, 3) := by decide +kernel
theorem dR_takeSigned_91 : decode cR_takeSigned 91 = .ok (.iload 4, 2) := by decide +kernel
theorem dR_takeSigned_93 : decode cR_takeSigned 93 = .ok (.ifCond .eq 10, 3) := by decide +kernel
theorem dR_takeSigned_96 : decode cR_takeSigned 96 = .ok (.iload 4, 2) := by decide +kernel
theorem dR_takeSigned_98 : decode cR_takeSigned 98 = .ok (.bipush 127, 2) := by decide +kernel
theorem dR_takeSigned_100 : decode cR_takeSigned 100 = .ok (.if_icmp .ne 7, 3) := by decide +kernel
theorem dR_takeSigned_103 : decode cR_takeSigned 103 = .ok (.iconst 1, 1) := by decide +kernel
theorem dR_takeSigned_104 : decode cR_takeSigned 104 = .ok (.goto 4, 3) := by decide +kernel
theorem dR_takeSigned_107 : decode cR_takeSigned 107 = .ok (.iconst 0, 1) := by decide +kernel
theorem dR_takeSigned_108 : decode cR_takeSigned 108 = .ok (.istore 6, 2) := by decide +kernel
theorem dR_takeSigned_110 : decode cR_takeSigned 110 = .ok (.iload 6, 2) := by decide +kernel
theorem dR_takeSigned_112 : decode cR_takeSigned 112 = .ok (.ifCond .eq 11, 3) := by decide +kernel
theorem dR_takeSigned_115 : decode cR_takeSigned 115 = .ok (.lload_n 1, 1) := by decide +kernel
theorem dR_takeSigned_116 : decode cR_takeSigned 116 = .ok (.invokestatic 114, 3) := by decide +kernel
theorem dR_takeSigned_119 : decode cR_takeSigned 119 = .ok (.iload_n 3, 1) := by decide +kernel
theorem dR_takeSigned_120 : decode cR_takeSigned 120 = .ok (.if_icmp .eq 14, 3) := by decide +kernel
theorem dR_takeSigned_123 : decode cR_takeSigned 123 = .ok (.aload_n 0, 1) := by decide +kernel
theorem dR_takeSigned_124 : decode cR_takeSigned 124 = .ok (.iconst 2, 1) := by decide +kernel
theorem dR_takeSigned_125 : decode cR_takeSigned 125 = .ok (.aload_n 0, 1) := by decide +kernel
theorem dR_takeSigned_126 : decode cR_takeSigned 126 = .ok (.getfield 22, 3) := by decide +kernel
theorem dR_takeSigned_129 : decode cR_takeSigned 129 = .ok (.iconst 1, 1) := by decide +kernel
theorem dR_takeSigned_130 : decode cR_takeSigned 130 = .ok (.isub, 1) := by decide +kernel
theorem dR_takeSigned_131 : decode cR_takeSigned 131 = .ok (.invokevirtual 73, 3) := by decide +kernel
theorem dR_takeSigned_134 : decode cR_takeSigned 134 = .ok (.lload_n 1, 1) := by decide +kernel
theorem dR_takeSigned_135 : decode cR_takeSigned 135 = .ok (.lreturn, 1) := by decide +kernel
theorem dR_takeByte_0 : decode cR_takeByte 0 = .ok (.aload_n 0, 1) := by decide +kernel
theorem dR_takeByte_1 : decode cR_takeByte 1 = .ok (.getfield 34, 3) := by decide +kernel
theorem dR_takeByte_4 : decode cR_takeByte 4 = .ok (.aload_n 0, 1) := by decide +kernel
theorem dR_takeByte_5 : decode cR_takeByte 5 = .ok (.getfield 22, 3) := by decide +kernel
theorem dR_takeByte_8 : decode cR_takeByte 8 = .ok (.invokevirtual 117, 3) := by decide +kernel
theorem dR_takeByte_11 : decode cR_takeByte 11 = .ok (.istore_n 1, 1) := by decide +kernel
theorem dR_takeByte_12 : decode cR_takeByte 12 = .ok (.iload_n 1, 1) := by decide +kernel
theorem dR_takeByte_13 : decode cR_takeByte 13 = .ok (.ifCond .ge 17, 3) := by decide +kernel
theorem dR_takeByte_16 : decode cR_takeByte 16 = .ok (.aload_n 0, 1) := by decide +kernel
theorem dR_takeByte_17 : decode cR_takeByte 17 = .ok (.iconst 1, 1) := by decide +kernel
theorem dR_takeByte_18 : decode cR_takeByte 18 = .ok (.aload_n 0, 1) := by decide +kernel
theorem dR_takeByte_19 : decode cR_takeByte 19 = .ok (.getfield 34, 3) := by decide +kernel
theorem dR_takeByte_22 : decode cR_takeByte 22 = .ok (.getfield 42, 3) := by decide +kernel
theorem dR_takeByte_25 : decode cR_takeByte 25 = .ok (.invokevirtual 73, 3) := by decide +kernel
theorem dR_takeByte_28 : decode cR_takeByte 28 = .ok (.iconst 0, 1) := by decide +kernel
theorem dR_takeByte_29 : decode cR_takeByte 29 = .ok (.ireturn, 1) := by decide +kernel
theorem dR_takeByte_30 : decode cR_takeByte 30 = .ok (.aload_n 0, 1) := by decide +kernel
theorem dR_takeByte_31 : decode cR_takeByte 31 = .ok (.dup, 1) := by decide +kernel
theorem dR_takeByte_32 : decode cR_takeByte 32 = .ok (.getfield 22, 3) := by decide +kernel
theorem dR_takeByte_35 : decode cR_takeByte 35 = .ok (.iconst 1, 1) := by decide +kernel
theorem dR_takeByte_36 : decode cR_takeByte 36 = .ok (.iadd, 1) := by decide +kernel
theorem dR_takeByte_37 : decode cR_takeByte 37 = .ok (.putfield 22, 3) := by decide +kernel
theorem dR_takeByte_40 : decode cR_takeByte 40 = .ok (.iload_n 1, 1) := by decide +kernel
theorem dR_takeByte_41 : decode cR_takeByte 41 = .ok (.ireturn, 1) := by decide +kernel
theorem dR_await_0 : decode cR_await 0 = .ok (.iconst 0, 1) := by decide +kernel
theorem dR_await_1 : decode cR_await 1 = .ok (.istore 4, 2) := by decide +kernel
theorem dR_await_3 : decode cR_await 3 = .ok (.iload 4, 2) := by decide +kernel
theorem dR_await_5 : decode cR_await 5 = .ok (.iload_n 1, 1) := by decide +kernel
theorem dR_await_6 : decode cR_await 6 = .ok (.if_icmp .ge 48, 3) := by decide +kernel
theorem dR_await_9 : decode cR_await 9 = .ok (.aload_n 0, 1) := by decide +kernel
theorem dR_await_10 : decode cR_await 10 = .ok (.getfield 18, 3) := by decide +kernel
theorem dR_await_13 : decode cR_await 13 = .ok (.bipush 61, 2) := by decide +kernel
theorem dR_await_15 : decode cR_await 15 = .ok (.if_icmp .ge 39, 3) := by decide +kernel
theorem dR_await_18 : decode cR_await 18 = .ok (.aload_n 0, 1) := by decide +kernel
theorem dR_await_19 : decode cR_await 19 = .ok (.getfield 11, 3) := by decide +kernel
theorem dR_await_22 : decode cR_await 22 = .ok (.aload_n 0, 1) := by decide +kernel
theorem dR_await_23 : decode cR_await 23 = .ok (.getfield 18, 3) := by decide +kernel
theorem dR_await_26 : decode cR_await 26 = .ok (.iload_n 2, 1) := by decide +kernel
theorem dR_await_27 : decode cR_await 27 = .ok (.iastore, 1) := by decide +kernel
theorem dR_await_28 : decode cR_await 28 = .ok (.aload_n 0, 1) := by decide +kernel
theorem dR_await_29 : decode cR_await 29 = .ok (.getfield 15, 3) := by decide +kernel
theorem dR_await_32 : decode cR_await 32 = .ok (.aload_n 0, 1) := by decide +kernel
theorem dR_await_33 : decode cR_await 33 = .ok (.getfield 18, 3) := by decide +kernel
theorem dR_await_36 : decode cR_await 36 = .ok (.iload_n 3, 1) := by decide +kernel
theorem dR_await_37 : decode cR_await 37 = .ok (.iastore, 1) := by decide +kernel
theorem dR_await_38 : decode cR_await 38 = .ok (.aload_n 0, 1) := by decide +kernel
theorem dR_await_39 : decode cR_await 39 = .ok (.dup, 1) := by decide +kernel
theorem dR_await_40 : decode cR_await 40 = .ok (.getfield 18, 3) := by decide +kernel
theorem dR_await_43 : decode cR_await 43 = .ok (.iconst 1, 1) := by decide +kernel
theorem dR_await_44 : decode cR_await 44 = .ok (.iadd, 1) := by decide +kernel
theorem dR_await_45 : decode cR_await 45 = .ok (.putfield 18, 3) := by decide +kernel
theorem dR_await_48 : decode cR_await 48 = .ok (.iinc 4 1, 3) := by decide +kernel
theorem dR_await_51 : decode cR_await 51 = .ok (.goto (-48), 3) := by decide +kernel
theorem dR_await_54 : decode cR_await 54 = .ok (.return_, 1) := by decide +kernel
theorem dR_fail_0 : decode cR_fail 0 = .ok (.aload_n 0, 1) := by decide +kernel
theorem dR_fail_1 : decode cR_fail 1 = .ok (.getfield 28, 3) := by decide +kernel
theorem dR_fail_4 : decode cR_fail 4 = .ok (.ifCond .ne 13, 3) := by decide +kernel
theorem dR_fail_7 : decode cR_fail 7 = .ok (.aload_n 0, 1) := by decide +kernel
theorem dR_fail_8 : decode cR_fail 8 = .ok (.iload_n 1, 1) := by decide +kernel
theorem dR_fail_9 : decode cR_fail 9 = .ok (.putfield 28, 3) := by decide +kernel
theorem dR_fail_12 : decode cR_fail 12 = .ok (.aload_n 0, 1) := by decide +kernel
theorem dR_fail_13 : decode cR_fail 13 = .ok (.iload_n 2, 1) := by decide +kernel
theorem dR_fail_14 : decode cR_fail 14 = .ok (.putfield 31, 3) := by decide +kernel
theorem dR_fail_17 : decode cR_fail 17 = .ok (.return_, 1) := by decide +kernel
