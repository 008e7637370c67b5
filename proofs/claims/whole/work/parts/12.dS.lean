theorem dS_init_0 : decode cS_init 0 = .ok (.aload_n 0, 1) := by decide +kernel
theorem dS_init_1 : decode cS_init 1 = .ok (.invokespecial 3, 3) := by decide +kernel
theorem dS_init_4 : decode cS_init 4 = .ok (.aload_n 0, 1) := by decide +kernel
theorem dS_init_5 : decode cS_init 5 = .ok (.sipush 200, 3) := by decide +kernel
theorem dS_init_8 : decode cS_init 8 = .ok (.newarray .int, 2) := by decide +kernel
theorem dS_init_10 : decode cS_init 10 = .ok (.putfield 9, 3) := by decide +kernel
theorem dS_init_13 : decode cS_init 13 = .ok (.aload_n 0, 1) := by decide +kernel
theorem dS_init_14 : decode cS_init 14 = .ok (.sipush 200, 3) := by decide +kernel
theorem dS_init_17 : decode cS_init 17 = .ok (.newarray .long, 2) := by decide +kernel
theorem dS_init_19 : decode cS_init 19 = .ok (.putfield 15, 3) := by decide +kernel
theorem dS_init_22 : decode cS_init 22 = .ok (.aload_n 0, 1) := by decide +kernel
theorem dS_init_23 : decode cS_init 23 = .ok (.sipush 1600, 3) := by decide +kernel
theorem dS_init_26 : decode cS_init 26 = .ok (.newarray .long, 2) := by decide +kernel
theorem dS_init_28 : decode cS_init 28 = .ok (.putfield 19, 3) := by decide +kernel
theorem dS_init_31 : decode cS_init 31 = .ok (.aload_n 0, 1) := by decide +kernel
theorem dS_init_32 : decode cS_init 32 = .ok (.sipush 200, 3) := by decide +kernel
theorem dS_init_35 : decode cS_init 35 = .ok (.newarray .int, 2) := by decide +kernel
theorem dS_init_37 : decode cS_init 37 = .ok (.putfield 22, 3) := by decide +kernel
theorem dS_init_40 : decode cS_init 40 = .ok (.aload_n 0, 1) := by decide +kernel
theorem dS_init_41 : decode cS_init 41 = .ok (.sipush 200, 3) := by decide +kernel
theorem dS_init_44 : decode cS_init 44 = .ok (.newarray .int, 2) := by decide +kernel
theorem dS_init_46 : decode cS_init 46 = .ok (.putfield 25, 3) := by decide +kernel
theorem dS_init_49 : decode cS_init 49 = .ok (.aload_n 0, 1) := by decide +kernel
theorem dS_init_50 : decode cS_init 50 = .ok (.sipush 200, 3) := by decide +kernel
theorem dS_init_53 : decode cS_init 53 = .ok (.newarray .int, 2) := by decide +kernel
theorem dS_init_55 : decode cS_init 55 = .ok (.putfield 28, 3) := by decide +kernel
theorem dS_init_58 : decode cS_init 58 = .ok (.aload_n 0, 1) := by decide +kernel
theorem dS_init_59 : decode cS_init 59 = .ok (.sipush 200, 3) := by decide +kernel
theorem dS_init_62 : decode cS_init 62 = .ok (.newarray .int, 2) := by decide +kernel
theorem dS_init_64 : decode cS_init 64 = .ok (.putfield 31, 3) := by decide +kernel
theorem dS_init_67 : decode cS_init 67 = .ok (.aload_n 0, 1) := by decide +kernel
theorem dS_init_68 : decode cS_init 68 = .ok (.sipush 200, 3) := by decide +kernel
theorem dS_init_71 : decode cS_init 71 = .ok (.newarray .int, 2) := by decide +kernel
theorem dS_init_73 : decode cS_init 73 = .ok (.putfield 34, 3) := by decide +kernel
theorem dS_init_76 : decode cS_init 76 = .ok (.aload_n 0, 1) := by decide +kernel
theorem dS_init_77 : decode cS_init 77 = .ok (.iconst 0, 1) := by decide +kernel
theorem dS_init_78 : decode cS_init 78 = .ok (.putfield 37, 3) := by decide +kernel
theorem dS_init_81 : decode cS_init 81 = .ok (.aload_n 0, 1) := by decide +kernel
theorem dS_init_82 : decode cS_init 82 = .ok (.iconst 0, 1) := by decide +kernel
theorem dS_init_83 : decode cS_init 83 = .ok (.putfield 41, 3) := by decide +kernel
theorem dS_init_86 : decode cS_init 86 = .ok (.return_, 1) := by decide +kernel
theorem dS_rootOf_0 : decode cS_rootOf 0 = .ok (.iload_n 1, 1) := by decide +kernel
theorem dS_rootOf_1 : decode cS_rootOf 1 = .ok (.ifCond .lt 18, 3) := by decide +kernel
theorem dS_rootOf_4 : decode cS_rootOf 4 = .ok (.iload_n 1, 1) := by decide +kernel
theorem dS_rootOf_5 : decode cS_rootOf 5 = .ok (.aload_n 0, 1) := by decide +kernel
theorem dS_rootOf_6 : decode cS_rootOf 6 = .ok (.getfield 37, 3) := by decide +kernel
theorem dS_rootOf_9 : decode cS_rootOf 9 = .ok (.if_icmp .ge 10, 3) := by decide +kernel
theorem dS_rootOf_12 : decode cS_rootOf 12 = .ok (.iload_n 1, 1) := by decide +kernel
theorem dS_rootOf_13 : decode cS_rootOf 13 = .ok (.sipush 200, 3) := by decide +kernel
theorem dS_rootOf_16 : decode cS_rootOf 16 = .ok (.if_icmp .lt 5, 3) := by decide +kernel
theorem dS_rootOf_19 : decode cS_rootOf 19 = .ok (.iconst (-1), 1) := by decide +kernel
theorem dS_rootOf_20 : decode cS_rootOf 20 = .ok (.ireturn, 1) := by decide +kernel
theorem dS_rootOf_21 : decode cS_rootOf 21 = .ok (.aload_n 0, 1) := by decide +kernel
theorem dS_rootOf_22 : decode cS_rootOf 22 = .ok (.getfield 34, 3) := by decide +kernel
theorem dS_rootOf_25 : decode cS_rootOf 25 = .ok (.iload_n 1, 1) := by decide +kernel
theorem dS_rootOf_26 : decode cS_rootOf 26 = .ok (.iaload, 1) := by decide +kernel
theorem dS_rootOf_27 : decode cS_rootOf 27 = .ok (.invokestatic 44, 3) := by decide +kernel
theorem dS_rootOf_30 : decode cS_rootOf 30 = .ok (.ifCond .eq 12, 3) := by decide +kernel
theorem dS_rootOf_33 : decode cS_rootOf 33 = .ok (.aload_n 0, 1) := by decide +kernel
theorem dS_rootOf_34 : decode cS_rootOf 34 = .ok (.getfield 34, 3) := by decide +kernel
theorem dS_rootOf_37 : decode cS_rootOf 37 = .ok (.iload_n 1, 1) := by decide +kernel
theorem dS_rootOf_38 : decode cS_rootOf 38 = .ok (.iaload, 1) := by decide +kernel
theorem dS_rootOf_39 : decode cS_rootOf 39 = .ok (.goto 4, 3) := by decide +kernel
theorem dS_rootOf_42 : decode cS_rootOf 42 = .ok (.iconst (-1), 1) := by decide +kernel
theorem dS_rootOf_43 : decode cS_rootOf 43 = .ok (.ireturn, 1) := by decide +kernel
theorem dS_lastRoot_0 : decode cS_lastRoot 0 = .ok (.aload_n 0, 1) := by decide +kernel
theorem dS_lastRoot_1 : decode cS_lastRoot 1 = .ok (.aload_n 0, 1) := by decide +kernel
theorem dS_lastRoot_2 : decode cS_lastRoot 2 = .ok (.getfield 37, 3) := by decide +kernel
theorem dS_lastRoot_5 : decode cS_lastRoot 5 = .ok (.iconst 1, 1) := by decide +kernel
theorem dS_lastRoot_6 : decode cS_lastRoot 6 = .ok (.isub, 1) := by decide +kernel
theorem dS_lastRoot_7 : decode cS_lastRoot 7 = .ok (.invokevirtual 48, 3) := by decide +kernel
theorem dS_lastRoot_10 : decode cS_lastRoot 10 = .ok (.ireturn, 1) := by decide +kernel
theorem dS_find_0 : decode cS_find 0 = .ok (.aload_n 0, 1) := by decide +kernel
theorem dS_find_1 : decode cS_find 1 = .ok (.invokevirtual 52, 3) := by decide +kernel
theorem dS_find_4 : decode cS_find 4 = .ok (.istore_n 2, 1) := by decide +kernel
theorem dS_find_5 : decode cS_find 5 = .ok (.iload_n 2, 1) := by decide +kernel
theorem dS_find_6 : decode cS_find 6 = .ok (.ifCond .lt 17, 3) := by decide +kernel
theorem dS_find_9 : decode cS_find 9 = .ok (.iload_n 1, 1) := by decide +kernel
theorem dS_find_10 : decode cS_find 10 = .ok (.ifCond .lt 13, 3) := by decide +kernel
theorem dS_find_13 : decode cS_find 13 = .ok (.iload_n 1, 1) := by decide +kernel
theorem dS_find_14 : decode cS_find 14 = .ok (.aload_n 0, 1) := by decide +kernel
theorem dS_find_15 : decode cS_find 15 = .ok (.getfield 22, 3) := by decide +kernel
theorem dS_find_18 : decode cS_find 18 = .ok (.iload_n 2, 1) := by decide +kernel
theorem dS_find_19 : decode cS_find 19 = .ok (.iaload, 1) := by decide +kernel
theorem dS_find_20 : decode cS_find 20 = .ok (.if_icmp .lt 5, 3) := by decide +kernel
theorem dS_find_23 : decode cS_find 23 = .ok (.iconst (-1), 1) := by decide +kernel
theorem dS_find_24 : decode cS_find 24 = .ok (.ireturn, 1) := by decide +kernel
theorem dS_find_25 : decode cS_find 25 = .ok (.iload_n 2, 1) := by decide +kernel
theorem dS_find_26 : decode cS_find 26 = .ok (.iload_n 1, 1) := by decide +kernel
theorem dS_find_27 : decode cS_find 27 = .ok (.iadd, 1) := by decide +kernel
theorem dS_find_28 : decode cS_find 28 = .ok (.invokestatic 44, 3) := by decide +kernel
theorem dS_find_31 : decode cS_find 31 = .ok (.ifCond .eq 9, 3) := by decide +kernel
theorem dS_find_34 : decode cS_find 34 = .ok (.iload_n 2, 1) := by decide +kernel
theorem dS_find_35 : decode cS_find 35 = .ok (.iload_n 1, 1) := by decide +kernel
theorem dS_find_36 : decode cS_find 36 = .ok (.iadd, 1) := by decide +kernel
theorem dS_find_37 : decode cS_find 37 = .ok (.goto 4, 3) := by decide +kernel
theorem dS_find_40 : decode cS_find 40 = .ok (.iconst (-1), 1) := by decide +kernel
theorem dS_find_41 : decode cS_find 41 = .ok (.ireturn, 1) := by decide +kernel
theorem dS_isPlace_0 : decode cS_isPlace 0 = .ok (.iload_n 0, 1) := by decide +kernel
theorem dS_isPlace_1 : decode cS_isPlace 1 = .ok (.ifCond .lt 14, 3) := by decide +kernel
theorem dS_isPlace_4 : decode cS_isPlace 4 = .ok (.iload_n 0, 1) := by decide +kernel
theorem dS_isPlace_5 : decode cS_isPlace 5 = .ok (.sipush 200, 3) := by decide +kernel
theorem dS_isPlace_8 : decode cS_isPlace 8 = .ok (.if_icmp .ge 7, 3) := by decide +kernel
theorem dS_isPlace_11 : decode cS_isPlace 11 = .ok (.iconst 1, 1) := by decide +kernel
theorem dS_isPlace_12 : decode cS_isPlace 12 = .ok (.goto 4, 3) := by decide +kernel
theorem dS_isPlace_15 : decode cS_isPlace 15 = .ok (.iconst 0, 1) := by decide +kernel
theorem dS_isPlace_16 : decode cS_isPlace 16 = .ok (.ireturn, 1) := by decide +kernel
theorem dS_lastLength_0 : decode cS_lastLength 0 = .ok (.aload_n 0, 1) := by decide +kernel
theorem dS_lastLength_1 : decode cS_lastLength 1 = .ok (.invokevirtual 52, 3) := by decide +kernel
theorem dS_lastLength_4 : decode cS_lastLength 4 = .ok (.istore_n 1, 1) := by decide +kernel
theorem dS_lastLength_5 : decode cS_lastLength 5 = .ok (.iload_n 1, 1) := by decide +kernel
theorem dS_lastLength_6 : decode cS_lastLength 6 = .ok (.ifCond .ge 7, 3) := by decide +kernel
theorem dS_lastLength_9 : decode cS_lastLength 9 = .ok (.iconst (-1), 1) := by decide +kernel
theorem dS_lastLength_10 : decode cS_lastLength 10 = .ok (.goto 9, 3) := by decide +kernel
theorem dS_lastLength_13 : decode cS_lastLength 13 = .ok (.aload_n 0, 1) := by decide +kernel
theorem dS_lastLength_14 : decode cS_lastLength 14 = .ok (.getfield 31, 3) := by decide +kernel
theorem dS_lastLength_17 : decode cS_lastLength 17 = .ok (.iload_n 1, 1) := by decide +kernel
theorem dS_lastLength_18 : decode cS_lastLength 18 = .ok (.iaload, 1) := by decide +kernel
theorem dS_lastLength_19 : decode cS_lastLength 19 = .ok (.ireturn, 1) := by decide +kernel
theorem dS_parentOf_0 : decode cS_parentOf 0 = .ok (.aload_n 0, 1) := by decide +kernel
theorem dS_parentOf_1 : decode cS_parentOf 1 = .ok (.iload_n 1, 1) := by decide +kernel
theorem dS_parentOf_2 : decode cS_parentOf 2 = .ok (.invokevirtual 56, 3) := by decide +kernel
theorem dS_parentOf_5 : decode cS_parentOf 5 = .ok (.istore_n 2, 1) := by decide +kernel
theorem dS_parentOf_6 : decode cS_parentOf 6 = .ok (.aload_n 0, 1) := by decide +kernel
theorem dS_parentOf_7 : decode cS_parentOf 7 = .ok (.invokevirtual 52, 3) := by decide +kernel
theorem dS_parentOf_10 : decode cS_parentOf 10 = .ok (.istore_n 3, 1) := by decide +kernel
theorem dS_parentOf_11 : decode cS_parentOf 11 = .ok (.iload_n 2, 1) := by decide +kernel
theorem dS_parentOf_12 : decode cS_parentOf 12 = .ok (.iconst 1, 1) := by decide +kernel
theorem dS_parentOf_13 : decode cS_parentOf 13 = .ok (.isub, 1) := by decide +kernel
theorem dS_parentOf_14 : decode cS_parentOf 14 = .ok (.istore 4, 2) := by decide +kernel
theorem dS_parentOf_16 : decode cS_parentOf 16 = .ok (.iload 4, 2) := by decide +kernel
theorem dS_parentOf_18 : decode cS_parentOf 18 = .ok (.iload_n 3, 1) := by decide +kernel
theorem dS_parentOf_19 : decode cS_parentOf 19 = .ok (.if_icmp .lt 33, 3) := by decide +kernel
theorem dS_parentOf_22 : decode cS_parentOf 22 = .ok (.iload 4, 2) := by decide +kernel
theorem dS_parentOf_24 : decode cS_parentOf 24 = .ok (.ifCond .lt 28, 3) := by decide +kernel
theorem dS_parentOf_27 : decode cS_parentOf 27 = .ok (.iload 4, 2) := by decide +kernel
theorem dS_parentOf_29 : decode cS_parentOf 29 = .ok (.aload_n 0, 1) := by decide +kernel
theorem dS_parentOf_30 : decode cS_parentOf 30 = .ok (.getfield 22, 3) := by decide +kernel
theorem dS_parentOf_33 : decode cS_parentOf 33 = .ok (.iload 4, 2) := by decide +kernel
theorem dS_parentOf_35 : decode cS_parentOf 35 = .ok (.iaload, 1) := by decide +kernel
theorem dS_parentOf_36 : decode cS_parentOf 36 = .ok (.iadd, 1) := by decide +kernel
theorem dS_parentOf_37 : decode cS_parentOf 37 = .ok (.iload_n 2, 1) := by decide +kernel
theorem dS_parentOf_38 : decode cS_parentOf 38 = .ok (.if_icmp .le 8, 3) := by decide +kernel
theorem dS_parentOf_41 : decode cS_parentOf 41 = .ok (.iload 4, 2) := by decide +kernel
theorem dS_parentOf_43 : decode cS_parentOf 43 = .ok (.iload_n 3, 1) := by decide +kernel
theorem dS_parentOf_44 : decode cS_parentOf 44 = .ok (.isub, 1) := by decide +kernel
theorem dS_parentOf_45 : decode cS_parentOf 45 = .ok (.ireturn, 1) := by decide +kernel
theorem dS_parentOf_46 : decode cS_parentOf 46 = .ok (.iinc 4 (-1), 3) := by decide +kernel
theorem dS_parentOf_49 : decode cS_parentOf 49 = .ok (.goto (-33), 3) := by decide +kernel
theorem dS_parentOf_52 : decode cS_parentOf 52 = .ok (.iconst (-1), 1) := by decide +kernel
theorem dS_parentOf_53 : decode cS_parentOf 53 = .ok (.ireturn, 1) := by decide +kernel
theorem dS_byteCount_0 : decode cS_byteCount 0 = .ok (.aload_n 0, 1) := by decide +kernel
theorem dS_byteCount_1 : decode cS_byteCount 1 = .ok (.getfield 9, 3) := by decide +kernel
theorem dS_byteCount_4 : decode cS_byteCount 4 = .ok (.iload_n 1, 1) := by decide +kernel
theorem dS_byteCount_5 : decode cS_byteCount 5 = .ok (.iaload, 1) := by decide +kernel
theorem dS_byteCount_6 : decode cS_byteCount 6 = .ok (.bipush 8, 2) := by decide +kernel
theorem dS_byteCount_8 : decode cS_byteCount 8 = .ok (.if_icmp .ne 13, 3) := by decide +kernel
theorem dS_byteCount_11 : decode cS_byteCount 11 = .ok (.aload_n 0, 1) := by decide +kernel
theorem dS_byteCount_12 : decode cS_byteCount 12 = .ok (.getfield 15, 3) := by decide +kernel
theorem dS_byteCount_15 : decode cS_byteCount 15 = .ok (.iload_n 1, 1) := by decide +kernel
theorem dS_byteCount_16 : decode cS_byteCount 16 = .ok (.laload, 1) := by decide +kernel
theorem dS_byteCount_17 : decode cS_byteCount 17 = .ok (.l2i, 1) := by decide +kernel
theorem dS_byteCount_18 : decode cS_byteCount 18 = .ok (.goto 4, 3) := by decide +kernel
theorem dS_byteCount_21 : decode cS_byteCount 21 = .ok (.iconst (-1), 1) := by decide +kernel
theorem dS_byteCount_22 : decode cS_byteCount 22 = .ok (.ireturn, 1) := by decide +kernel
theorem dS_byteIn_0 : decode cS_byteIn 0 = .ok (.iload_n 1, 1) := by decide +kernel
theorem dS_byteIn_1 : decode cS_byteIn 1 = .ok (.bipush 8, 2) := by decide +kernel
theorem dS_byteIn_3 : decode cS_byteIn 3 = .ok (.imul, 1) := by decide +kernel
theorem dS_byteIn_4 : decode cS_byteIn 4 = .ok (.iload_n 2, 1) := by decide +kernel
theorem dS_byteIn_5 : decode cS_byteIn 5 = .ok (.bipush 8, 2) := by decide +kernel
theorem dS_byteIn_7 : decode cS_byteIn 7 = .ok (.idiv, 1) := by decide +kernel
theorem dS_byteIn_8 : decode cS_byteIn 8 = .ok (.iadd, 1) := by decide +kernel
theorem dS_byteIn_9 : decode cS_byteIn 9 = .ok (.istore_n 3, 1) := by decide +kernel
theorem dS_byteIn_10 : decode cS_byteIn 10 = .ok (.iload_n 3, 1) := by decide +kernel
theorem dS_byteIn_11 : decode cS_byteIn 11 = .ok (.ifCond .lt 12, 3) := by decide +kernel
theorem dS_byteIn_14 : decode cS_byteIn 14 = .ok (.iload_n 3, 1) := by decide +kernel
theorem dS_byteIn_15 : decode cS_byteIn 15 = .ok (.aload_n 0, 1) := by decide +kernel
theorem dS_byteIn_16 : decode cS_byteIn 16 = .ok (.getfield 19, 3) := by decide +kernel
theorem dS_byteIn_19 : decode cS_byteIn 19 = .ok (.arraylength, 1) := by decide +kernel
theorem dS_byteIn_20 : decode cS_byteIn 20 = .ok (.if_icmp .lt 7, 3) := by decide +kernel
theorem dS_byteIn_23 : decode cS_byteIn 23 = .ok (.iconst (-1), 1) := by decide +kernel
theorem dS_byteIn_24 : decode cS_byteIn 24 = .ok (.goto 19, 3) := by decide +kernel
theorem dS_byteIn_27 : decode cS_byteIn 27 = .ok (.aload_n 0, 1) := by decide +kernel
theorem dS_byteIn_28 : decode cS_byteIn 28 = .ok (.getfield 19, 3) := by decide +kernel
theorem dS_byteIn_31 : decode cS_byteIn 31 = .ok (.iload_n 3, 1) := by decide +kernel
theorem dS_byteIn_32 : decode cS_byteIn 32 = .ok (.laload, 1) := by decide +kernel
theorem dS_byteIn_33 : decode cS_byteIn 33 = .ok (.bipush 7, 2) := by decide +kernel
theorem dS_byteIn_35 : decode cS_byteIn 35 = .ok (.iload_n 2, 1) := by decide +kernel
theorem dS_byteIn_36 : decode cS_byteIn 36 = .ok (.bipush 8, 2) := by decide +kernel
theorem dS_byteIn_38 : decode cS_byteIn 38 = .ok (.irem, 1) := by decide +kernel
theorem dS_byteIn_39 : decode cS_byteIn 39 = .ok (.isub, 1) := by decide +kernel
theorem dS_byteIn_40 : decode cS_byteIn 40 = .ok (.invokestatic 59, 3) := by decide +kernel
theorem dS_byteIn_43 : decode cS_byteIn 43 = .ok (.ireturn, 1) := by decide +kernel
theorem dS_setByte_0 : decode cS_setByte 0 = .ok (.iload_n 1, 1) := by decide +kernel
theorem dS_setByte_1 : decode cS_setByte 1 = .ok (.bipush 8, 2) := by decide +kernel
theorem dS_setByte_3 : decode cS_setByte 3 = .ok (.imul, 1) := by decide +kernel
theorem dS_setByte_4 : decode cS_setByte 4 = .ok (.iload_n 2, 1) := by decide +kernel
theorem dS_setByte_5 : decode cS_setByte 5 = .ok (.bipush 8, 2) := by decide +kernel
theorem dS_setByte_7 : decode cS_setByte 7 = .ok (.idiv, 1) := by decide +kernel
theorem dS_setByte_8 : decode cS_setByte 8 = .ok (.iadd, 1) := by decide +kernel
theorem dS_setByte_9 : decode cS_setByte 9 = .ok (.istore 4, 2) := by decide +kernel
theorem dS_setByte_11 : decode cS_setByte 11 = .ok (.bipush 8, 2) := by decide +kernel
theorem dS_setByte_13 : decode cS_setByte 13 = .ok (.bipush 7, 2) := by decide +kernel
theorem dS_setByte_15 : decode cS_setByte 15 = .ok (.iload_n 2, 1) := by decide +kernel
theorem dS_setByte_16 : decode cS_setByte 16 = .ok (.bipush 8, 2) := by decide +kernel
theorem dS_setByte_18 : decode cS_setByte 18 = .ok (.irem, 1) := by decide +kernel
theorem dS_setByte_19 : decode cS_setByte 19 = .ok (.isub, 1) := by decide +kernel
theorem dS_setByte_20 : decode cS_setByte 20 = .ok (.imul, 1) := by decide +kernel
theorem dS_setByte_21 : decode cS_setByte 21 = .ok (.istore 5, 2) := by decide +kernel
theorem dS_setByte_23 : decode cS_setByte 23 = .ok (.iload 4, 2) := by decide +kernel
theorem dS_setByte_25 : decode cS_setByte 25 = .ok (.ifCond .lt 44, 3) := by decide +kernel
theorem dS_setByte_28 : decode cS_setByte 28 = .ok (.iload 4, 2) := by decide +kernel
theorem dS_setByte_30 : decode cS_setByte 30 = .ok (.aload_n 0, 1) := by decide +kernel
theorem dS_setByte_31 : decode cS_setByte 31 = .ok (.getfield 19, 3) := by decide +kernel
theorem dS_setByte_34 : decode cS_setByte 34 = .ok (.arraylength, 1) := by decide +kernel
theorem dS_setByte_35 : decode cS_setByte 35 = .ok (.if_icmp .ge 34, 3) := by decide +kernel
theorem dS_setByte_38 : decode cS_setByte 38 = .ok (.aload_n 0, 1) := by decide +kernel
theorem dS_setByte_39 : decode cS_setByte 39 = .ok (.getfield 19, 3) := by decide +kernel
theorem dS_setByte_42 : decode cS_setByte 42 = .ok (.iload 4, 2) := by decide +kernel
theorem dS_setByte_44 : decode cS_setByte 44 = .ok (.aload_n 0, 1) := by decide +kernel
theorem dS_setByte_45 : decode cS_setByte 45 = .ok (.getfield 19, 3) := by decide +kernel
theorem dS_setByte_48 : decode cS_setByte 48 = .ok (.iload 4, 2) := by decide +kernel
theorem dS_setByte_50 : decode cS_setByte 50 = .ok (.laload, 1) := by decide +kernel
theorem dS_setByte_51 : decode cS_setByte 51 = .ok (.ldc2_w 65, 3) := by decide +kernel
theorem dS_setByte_54 : decode cS_setByte 54 = .ok (.iload 5, 2) := by decide +kernel
theorem dS_setByte_56 : decode cS_setByte 56 = .ok (.lshl, 1) := by decide +kernel
theorem dS_setByte_57 : decode cS_setByte 57 = .ok (.ldc2_w 67, 3) := by decide +kernel
theorem dS_setByte_60 : decode cS_setByte 60 = .ok (.lxor, 1) := by decide +kernel
theorem dS_setByte_61 : decode cS_setByte 61 = .ok (.land, 1) := by decide +kernel
theorem dS_setByte_62 : decode cS_setByte 62 = .ok (.iload_n 3, 1) := by decide +kernel
theorem dS_setByte_63 : decode cS_setByte 63 = .ok (.i2l, 1) := by decide +kernel
theorem dS_setByte_64 : decode cS_setByte 64 = .ok (.iload 5, 2) := by decide +kernel
theorem dS_setByte_66 : decode cS_setByte 66 = .ok (.lshl, 1) := by decide +kernel
theorem dS_setByte_67 : decode cS_setByte 67 = .ok (.lor, 1) := by decide +kernel
theorem dS_setByte_68 : decode cS_setByte 68 = .ok (.lastore, 1) := by decide +kernel
theorem dS_setByte_69 : decode cS_setByte 69 = .ok (.return_, 1) := by decide +kernel
theorem dS_setNode_0 : decode cS_setNode 0 = .ok (.aload_n 0, 1) := by decide +kernel
theorem dS_setNode_1 : decode cS_setNode 1 = .ok (.getfield 9, 3) := by decide +kernel
theorem dS_setNode_4 : decode cS_setNode 4 = .ok (.iload_n 1, 1) := by decide +kernel
theorem dS_setNode_5 : decode cS_setNode 5 = .ok (.iload_n 2, 1) := by decide +kernel
theorem dS_setNode_6 : decode cS_setNode 6 = .ok (.iastore, 1) := by decide +kernel
theorem dS_setNode_7 : decode cS_setNode 7 = .ok (.aload_n 0, 1) := by decide +kernel
theorem dS_setNode_8 : decode cS_setNode 8 = .ok (.getfield 15, 3) := by decide +kernel
theorem dS_setNode_11 : decode cS_setNode 11 = .ok (.iload_n 1, 1) := by decide +kernel
theorem dS_setNode_12 : decode cS_setNode 12 = .ok (.lload_n 3, 1) := by decide +kernel
theorem dS_setNode_13 : decode cS_setNode 13 = .ok (.lastore, 1) := by decide +kernel
theorem dS_setNode_14 : decode cS_setNode 14 = .ok (.return_, 1) := by decide +kernel
theorem dS_put_0 : decode cS_put 0 = .ok (.iload_n 1, 1) := by decide +kernel
theorem dS_put_1 : decode cS_put 1 = .ok (.invokestatic 69, 3) := by decide +kernel
theorem dS_put_4 : decode cS_put 4 = .ok (.istore 4, 2) := by decide +kernel
theorem dS_put_6 : decode cS_put 6 = .ok (.aload_n 0, 1) := by decide +kernel
theorem dS_put_7 : decode cS_put 7 = .ok (.getfield 37, 3) := by decide +kernel
theorem dS_put_10 : decode cS_put 10 = .ok (.iload 4, 2) := by decide +kernel
theorem dS_put_12 : decode cS_put 12 = .ok (.if_icmp .lt 13, 3) := by decide +kernel
theorem dS_put_15 : decode cS_put 15 = .ok (.aload_n 0, 1) := by decide +kernel
theorem dS_put_16 : decode cS_put 16 = .ok (.getfield 41, 3) := by decide +kernel
theorem dS_put_19 : decode cS_put 19 = .ok (.sipush 200, 3) := by decide +kernel
theorem dS_put_22 : decode cS_put 22 = .ok (.if_icmp .lt 5, 3) := by decide +kernel
theorem dS_put_25 : decode cS_put 25 = .ok (.iconst 0, 1) := by decide +kernel
theorem dS_put_26 : decode cS_put 26 = .ok (.ireturn, 1) := by decide +kernel
theorem dS_put_27 : decode cS_put 27 = .ok (.aload_n 0, 1) := by decide +kernel
theorem dS_put_28 : decode cS_put 28 = .ok (.getfield 37, 3) := by decide +kernel
theorem dS_put_31 : decode cS_put 31 = .ok (.iload 4, 2) := by decide +kernel
theorem dS_put_33 : decode cS_put 33 = .ok (.isub, 1) := by decide +kernel
theorem dS_put_34 : decode cS_put 34 = .ok (.istore 5, 2) := by decide +kernel
theorem dS_put_36 : decode cS_put 36 = .ok (.iload 5, 2) := by decide +kernel
theorem dS_put_38 : decode cS_put 38 = .ok (.aload_n 0, 1) := by decide +kernel
theorem dS_put_39 : decode cS_put 39 = .ok (.getfield 37, 3) := by decide +kernel
theorem dS_put_42 : decode cS_put 42 = .ok (.if_icmp .ge 36, 3) := by decide +kernel
theorem dS_put_45 : decode cS_put 45 = .ok (.aload_n 0, 1) := by decide +kernel
theorem dS_put_46 : decode cS_put 46 = .ok (.iload 5, 2) := by decide +kernel
theorem dS_put_48 : decode cS_put 48 = .ok (.invokevirtual 48, 3) := by decide +kernel
theorem dS_put_51 : decode cS_put 51 = .ok (.istore 6, 2) := by decide +kernel
theorem dS_put_53 : decode cS_put 53 = .ok (.iload 6, 2) := by decide +kernel
theorem dS_put_55 : decode cS_put 55 = .ok (.ifCond .lt 15, 3) := by decide +kernel
theorem dS_put_58 : decode cS_put 58 = .ok (.aload_n 0, 1) := by decide +kernel
theorem dS_put_59 : decode cS_put 59 = .ok (.getfield 25, 3) := by decide +kernel
theorem dS_put_62 : decode cS_put 62 = .ok (.iload 6, 2) := by decide +kernel
theorem dS_put_64 : decode cS_put 64 = .ok (.iaload, 1) := by decide +kernel
theorem dS_put_65 : decode cS_put 65 = .ok (.bipush 60, 2) := by decide +kernel
theorem dS_put_67 : decode cS_put 67 = .ok (.if_icmp .lt 5, 3) := by decide +kernel
theorem dS_put_70 : decode cS_put 70 = .ok (.iconst 0, 1) := by decide +kernel
theorem dS_put_71 : decode cS_put 71 = .ok (.ireturn, 1) := by decide +kernel
theorem dS_put_72 : decode cS_put 72 = .ok (.iinc 5 1, 3) := by decide +kernel
theorem dS_put_75 : decode cS_put 75 = .ok (.goto (-39), 3) := by decide +kernel
theorem dS_put_78 : decode cS_put 78 = .ok (.iload 4, 2) := by decide +kernel
theorem dS_put_80 : decode cS_put 80 = .ok (.ifCond .ne 10, 3) := by decide +kernel
theorem dS_put_83 : decode cS_put 83 = .ok (.aload_n 0, 1) := by decide +kernel
theorem dS_put_84 : decode cS_put 84 = .ok (.getfield 41, 3) := by decide +kernel
theorem dS_put_87 : decode cS_put 87 = .ok (.goto 14, 3) := by decide +kernel
theorem dS_put_90 : decode cS_put 90 = .ok (.aload_n 0, 1) := by decide +kernel
theorem dS_put_91 : decode cS_put 91 = .ok (.aload_n 0, 1) := by decide +kernel
theorem dS_put_92 : decode cS_put 92 = .ok (.getfield 37, 3) := by decide +kernel
theorem dS_put_95 : decode cS_put 95 = .ok (.iload 4, 2) := by decide +kernel
theorem dS_put_97 : decode cS_put 97 = .ok (.isub, 1) := by decide +kernel
theorem dS_put_98 : decode cS_put 98 = .ok (.invokevirtual 48, 3) := by decide +kernel
theorem dS_put_101 : decode cS_put 101 = .ok (.istore 5, 2) := by decide +kernel
theorem dS_put_103 : decode cS_put 103 = .ok (.aload_n 0, 1) := by decide +kernel
theorem dS_put_104 : decode cS_put 104 = .ok (.iload 5, 2) := by decide +kernel
theorem dS_put_106 : decode cS_put 106 = .ok (.iload 5, 2) := by decide +kernel
theorem dS_put_108 : decode cS_put 108 = .ok (.iconst 1, 1) := by decide +kernel
theorem dS_put_109 : decode cS_put 109 = .ok (.iadd, 1) := by decide +kernel
theorem dS_put_110 : decode cS_put 110 = .ok (.aload_n 0, 1) := by decide +kernel
theorem dS_put_111 : decode cS_put 111 = .ok (.getfield 41, 3) := by decide +kernel
theorem dS_put_114 : decode cS_put 114 = .ok (.iload 5, 2) := by decide +kernel
theorem dS_put_116 : decode cS_put 116 = .ok (.isub, 1) := by decide +kernel
theorem dS_put_117 : decode cS_put 117 = .ok (.invokevirtual 72, 3) := by decide +kernel
theorem dS_put_120 : decode cS_put 120 = .ok (.aload_n 0, 1) := by decide +kernel
theorem dS_put_121 : decode cS_put 121 = .ok (.iload 5, 2) := by decide +kernel
theorem dS_put_123 : decode cS_put 123 = .ok (.iload_n 1, 1) := by decide +kernel
theorem dS_put_124 : decode cS_put 124 = .ok (.lload_n 2, 1) := by decide +kernel
theorem dS_put_125 : decode cS_put 125 = .ok (.invokevirtual 76, 3) := by decide +kernel
theorem dS_put_128 : decode cS_put 128 = .ok (.aload_n 0, 1) := by decide +kernel
theorem dS_put_129 : decode cS_put 129 = .ok (.iload 5, 2) := by decide +kernel
theorem dS_put_131 : decode cS_put 131 = .ok (.invokevirtual 80, 3) := by decide +kernel
theorem dS_put_134 : decode cS_put 134 = .ok (.aload_n 0, 1) := by decide +kernel
theorem dS_put_135 : decode cS_put 135 = .ok (.dup, 1) := by decide +kernel
theorem dS_put_136 : decode cS_put 136 = .ok (.getfield 41, 3) := by decide +kernel
theorem dS_put_139 : decode cS_put 139 = .ok (.iconst 1, 1) := by decide +kernel
theorem dS_put_140 : decode cS_put 140 = .ok (.iadd, 1) := by decide +kernel
theorem dS_put_141 : decode cS_put 141 = .ok (.putfield 41, 3) := by decide +kernel
theorem dS_put_144 : decode cS_put 144 = .ok (.aload_n 0, 1) := by decide +kernel
theorem dS_put_145 : decode cS_put 145 = .ok (.dup, 1) := by decide +kernel
theorem dS_put_146 : decode cS_put 146 = .ok (.getfield 37, 3) := by decide +kernel
theorem dS_put_149 : decode cS_put 149 = .ok (.iload 4, 2) := by decide +kernel
theorem dS_put_151 : decode cS_put 151 = .ok (.isub, 1) := by decide +kernel
theorem dS_put_152 : decode cS_put 152 = .ok (.putfield 37, 3) := by decide +kernel
theorem dS_put_155 : decode cS_put 155 = .ok (.aload_n 0, 1) := by decide +kernel
theorem dS_put_156 : decode cS_put 156 = .ok (.iload 5, 2) := by decide +kernel
theorem dS_put_158 : decode cS_put 158 = .ok (.invokevirtual 84, 3) := by decide +kernel
theorem dS_put_161 : decode cS_put 161 = .ok (.iconst 1, 1) := by decide +kernel
theorem dS_put_162 : decode cS_put 162 = .ok (.ireturn, 1) := by decide +kernel
theorem dS_extend_0 : decode cS_extend 0 = .ok (.aload_n 0, 1) := by decide +kernel
theorem dS_extend_1 : decode cS_extend 1 = .ok (.invokevirtual 52, 3) := by decide +kernel
theorem dS_extend_4 : decode cS_extend 4 = .ok (.istore 4, 2) := by decide +kernel
theorem dS_extend_6 : decode cS_extend 6 = .ok (.iload 4, 2) := by decide +kernel
theorem dS_extend_8 : decode cS_extend 8 = .ok (.ifCond .lt 28, 3) := by decide +kernel
theorem dS_extend_11 : decode cS_extend 11 = .ok (.aload_n 0, 1) := by decide +kernel
theorem dS_extend_12 : decode cS_extend 12 = .ok (.getfield 9, 3) := by decide +kernel
theorem dS_extend_15 : decode cS_extend 15 = .ok (.iload 4, 2) := by decide +kernel
theorem dS_extend_17 : decode cS_extend 17 = .ok (.iaload, 1) := by decide +kernel
theorem dS_extend_18 : decode cS_extend 18 = .ok (.bipush 8, 2) := by decide +kernel
theorem dS_extend_20 : decode cS_extend 20 = .ok (.if_icmp .ne 16, 3) := by decide +kernel
theorem dS_extend_23 : decode cS_extend 23 = .ok (.iload_n 3, 1) := by decide +kernel
theorem dS_extend_24 : decode cS_extend 24 = .ok (.bipush 64, 2) := by decide +kernel
theorem dS_extend_26 : decode cS_extend 26 = .ok (.aload_n 0, 1) := by decide +kernel
theorem dS_extend_27 : decode cS_extend 27 = .ok (.iload 4, 2) := by decide +kernel
theorem dS_extend_29 : decode cS_extend 29 = .ok (.invokevirtual 87, 3) := by decide +kernel
theorem dS_extend_32 : decode cS_extend 32 = .ok (.isub, 1) := by decide +kernel
theorem dS_extend_33 : decode cS_extend 33 = .ok (.if_icmp .le 5, 3) := by decide +kernel
theorem dS_extend_36 : decode cS_extend 36 = .ok (.iconst 0, 1) := by decide +kernel
theorem dS_extend_37 : decode cS_extend 37 = .ok (.ireturn, 1) := by decide +kernel
theorem dS_extend_38 : decode cS_extend 38 = .ok (.aload_n 0, 1) := by decide +kernel
theorem dS_extend_39 : decode cS_extend 39 = .ok (.iload 4, 2) := by decide +kernel
theorem dS_extend_41 : decode cS_extend 41 = .ok (.invokevirtual 87, 3) := by decide +kernel
theorem dS_extend_44 : decode cS_extend 44 = .ok (.istore 5, 2) := by decide +kernel
theorem dS_extend_46 : decode cS_extend 46 = .ok (.iconst 0, 1) := by decide +kernel
theorem dS_extend_47 : decode cS_extend 47 = .ok (.istore 6, 2) := by decide +kernel
theorem dS_extend_49 : decode cS_extend 49 = .ok (.iload 6, 2) := by decide +kernel
theorem dS_extend_51 : decode cS_extend 51 = .ok (.iload_n 3, 1) := by decide +kernel
theorem dS_extend_52 : decode cS_extend 52 = .ok (.if_icmp .ge 30, 3) := by decide +kernel
theorem dS_extend_55 : decode cS_extend 55 = .ok (.aload_n 0, 1) := by decide +kernel
theorem dS_extend_56 : decode cS_extend 56 = .ok (.iload 4, 2) := by decide +kernel
theorem dS_extend_58 : decode cS_extend 58 = .ok (.iload 5, 2) := by decide +kernel
theorem dS_extend_60 : decode cS_extend 60 = .ok (.iload 6, 2) := by decide +kernel
theorem dS_extend_62 : decode cS_extend 62 = .ok (.iadd, 1) := by decide +kernel
theorem dS_extend_63 : decode cS_extend 63 = .ok (.lload_n 1, 1) := by decide +kernel
theorem dS_extend_64 : decode cS_extend 64 = .ok (.iload_n 3, 1) := by decide +kernel
theorem dS_extend_65 : decode cS_extend 65 = .ok (.iconst 1, 1) := by decide +kernel
theorem dS_extend_66 : decode cS_extend 66 = .ok (.isub, 1) := by decide +kernel
theorem dS_extend_67 : decode cS_extend 67 = .ok (.iload 6, 2) := by decide +kernel
theorem dS_extend_69 : decode cS_extend 69 = .ok (.isub, 1) := by decide +kernel
theorem dS_extend_70 : decode cS_extend 70 = .ok (.invokestatic 59, 3) := by decide +kernel
theorem dS_extend_73 : decode cS_extend 73 = .ok (.invokevirtual 90, 3) := by decide +kernel
theorem dS_extend_76 : decode cS_extend 76 = .ok (.iinc 6 1, 3) := by decide +kernel
theorem dS_extend_79 : decode cS_extend 79 = .ok (.goto (-30), 3) := by decide +kernel
theorem dS_extend_82 : decode cS_extend 82 = .ok (.aload_n 0, 1) := by decide +kernel
theorem dS_extend_83 : decode cS_extend 83 = .ok (.getfield 15, 3) := by decide +kernel
theorem dS_extend_86 : decode cS_extend 86 = .ok (.iload 4, 2) := by decide +kernel
theorem dS_extend_88 : decode cS_extend 88 = .ok (.iload 5, 2) := by decide +kernel
theorem dS_extend_90 : decode cS_extend 90 = .ok (.iload_n 3, 1) := by decide +kernel
theorem dS_extend_91 : decode cS_extend 91 = .ok (.iadd, 1) := by decide +kernel
theorem dS_extend_92 : decode cS_extend 92 = .ok (.i2l, 1) := by decide +kernel
theorem dS_extend_93 : decode cS_extend 93 = .ok (.lastore, 1) := by decide +kernel
theorem dS_extend_94 : decode cS_extend 94 = .ok (.aload_n 0, 1) := by decide +kernel
theorem dS_extend_95 : decode cS_extend 95 = .ok (.iload 4, 2) := by decide +kernel
theorem dS_extend_97 : decode cS_extend 97 = .ok (.invokevirtual 80, 3) := by decide +kernel
theorem dS_extend_100 : decode cS_extend 100 = .ok (.iconst 1, 1) := by decide +kernel
theorem dS_extend_101 : decode cS_extend 101 = .ok (.ireturn, 1) := by decide +kernel
theorem dS_removeLast_0 : decode cS_removeLast 0 = .ok (.aload_n 0, 1) := by decide +kernel
theorem dS_removeLast_1 : decode cS_removeLast 1 = .ok (.invokevirtual 52, 3) := by decide +kernel
theorem dS_removeLast_4 : decode cS_removeLast 4 = .ok (.istore_n 1, 1) := by decide +kernel
theorem dS_removeLast_5 : decode cS_removeLast 5 = .ok (.iload_n 1, 1) := by decide +kernel
theorem dS_removeLast_6 : decode cS_removeLast 6 = .ok (.ifCond .ge 5, 3) := by decide +kernel
theorem dS_removeLast_9 : decode cS_removeLast 9 = .ok (.iconst 0, 1) := by decide +kernel
theorem dS_removeLast_10 : decode cS_removeLast 10 = .ok (.ireturn, 1) := by decide +kernel
theorem dS_removeLast_11 : decode cS_removeLast 11 = .ok (.aload_n 0, 1) := by decide +kernel
theorem dS_removeLast_12 : decode cS_removeLast 12 = .ok (.iload_n 1, 1) := by decide +kernel
theorem dS_removeLast_13 : decode cS_removeLast 13 = .ok (.putfield 41, 3) := by decide +kernel
theorem dS_removeLast_16 : decode cS_removeLast 16 = .ok (.aload_n 0, 1) := by decide +kernel
theorem dS_removeLast_17 : decode cS_removeLast 17 = .ok (.dup, 1) := by decide +kernel
theorem dS_removeLast_18 : decode cS_removeLast 18 = .ok (.getfield 37, 3) := by decide +kernel
theorem dS_removeLast_21 : decode cS_removeLast 21 = .ok (.iconst 1, 1) := by decide +kernel
theorem dS_removeLast_22 : decode cS_removeLast 22 = .ok (.isub, 1) := by decide +kernel
theorem dS_removeLast_23 : decode cS_removeLast 23 = .ok (.putfield 37, 3) := by decide +kernel
theorem dS_removeLast_26 : decode cS_removeLast 26 = .ok (.iconst 1, 1) := by decide +kernel
theorem dS_removeLast_27 : decode cS_removeLast 27 = .ok (.ireturn, 1) := by decide +kernel
theorem dS_repeatLast_0 : decode cS_repeatLast 0 = .ok (.aload_n 0, 1) := by decide +kernel
theorem dS_repeatLast_1 : decode cS_repeatLast 1 = .ok (.invokevirtual 52, 3) := by decide +kernel
theorem dS_repeatLast_4 : decode cS_repeatLast 4 = .ok (.istore_n 1, 1) := by decide +kernel
theorem dS_repeatLast_5 : decode cS_repeatLast 5 = .ok (.iload_n 1, 1) := by decide +kernel
theorem dS_repeatLast_6 : decode cS_repeatLast 6 = .ok (.ifCond .lt 20, 3) := by decide +kernel
theorem dS_repeatLast_9 : decode cS_repeatLast 9 = .ok (.aload_n 0, 1) := by decide +kernel
theorem dS_repeatLast_10 : decode cS_repeatLast 10 = .ok (.getfield 22, 3) := by decide +kernel
theorem dS_repeatLast_13 : decode cS_repeatLast 13 = .ok (.iload_n 1, 1) := by decide +kernel
theorem dS_repeatLast_14 : decode cS_repeatLast 14 = .ok (.iaload, 1) := by decide +kernel
theorem dS_repeatLast_15 : decode cS_repeatLast 15 = .ok (.sipush 200, 3) := by decide +kernel
theorem dS_repeatLast_18 : decode cS_repeatLast 18 = .ok (.aload_n 0, 1) := by decide +kernel
theorem dS_repeatLast_19 : decode cS_repeatLast 19 = .ok (.getfield 41, 3) := by decide +kernel
theorem dS_repeatLast_22 : decode cS_repeatLast 22 = .ok (.isub, 1) := by decide +kernel
theorem dS_repeatLast_23 : decode cS_repeatLast 23 = .ok (.if_icmp .le 5, 3) := by decide +kernel
theorem dS_repeatLast_26 : decode cS_repeatLast 26 = .ok (.iconst 0, 1) := by decide +kernel
theorem dS_repeatLast_27 : decode cS_repeatLast 27 = .ok (.ireturn, 1) := by decide +kernel
theorem dS_repeatLast_28 : decode cS_repeatLast 28 = .ok (.aload_n 0, 1) := by decide +kernel
theorem dS_repeatLast_29 : decode cS_repeatLast 29 = .ok (.iload_n 1, 1) := by decide +kernel
theorem dS_repeatLast_30 : decode cS_repeatLast 30 = .ok (.aload_n 0, 1) := by decide +kernel
theorem dS_repeatLast_31 : decode cS_repeatLast 31 = .ok (.getfield 41, 3) := by decide +kernel
theorem dS_repeatLast_34 : decode cS_repeatLast 34 = .ok (.aload_n 0, 1) := by decide +kernel
theorem dS_repeatLast_35 : decode cS_repeatLast 35 = .ok (.getfield 22, 3) := by decide +kernel
theorem dS_repeatLast_38 : decode cS_repeatLast 38 = .ok (.iload_n 1, 1) := by decide +kernel
theorem dS_repeatLast_39 : decode cS_repeatLast 39 = .ok (.iaload, 1) := by decide +kernel
theorem dS_repeatLast_40 : decode cS_repeatLast 40 = .ok (.invokevirtual 72, 3) := by decide +kernel
theorem dS_repeatLast_43 : decode cS_repeatLast 43 = .ok (.aload_n 0, 1) := by decide +kernel
theorem dS_repeatLast_44 : decode cS_repeatLast 44 = .ok (.aload_n 0, 1) := by decide +kernel
theorem dS_repeatLast_45 : decode cS_repeatLast 45 = .ok (.getfield 41, 3) := by decide +kernel
theorem dS_repeatLast_48 : decode cS_repeatLast 48 = .ok (.invokevirtual 84, 3) := by decide +kernel
theorem dS_repeatLast_51 : decode cS_repeatLast 51 = .ok (.aload_n 0, 1) := by decide +kernel
theorem dS_repeatLast_52 : decode cS_repeatLast 52 = .ok (.dup, 1) := by decide +kernel
theorem dS_repeatLast_53 : decode cS_repeatLast 53 = .ok (.getfield 41, 3) := by decide +kernel
theorem dS_repeatLast_56 : decode cS_repeatLast 56 = .ok (.aload_n 0, 1) := by decide +kernel
theorem dS_repeatLast_57 : decode cS_repeatLast 57 = .ok (.getfield 22, 3) := by decide +kernel
theorem dS_repeatLast_60 : decode cS_repeatLast 60 = .ok (.iload_n 1, 1) := by decide +kernel
theorem dS_repeatLast_61 : decode cS_repeatLast 61 = .ok (.iaload, 1) := by decide +kernel
theorem dS_repeatLast_62 : decode cS_repeatLast 62 = .ok (.iadd, 1) := by decide +kernel
theorem dS_repeatLast_63 : decode cS_repeatLast 63 = .ok (.putfield 41, 3) := by decide +kernel
theorem dS_repeatLast_66 : decode cS_repeatLast 66 = .ok (.iconst 1, 1) := by decide +kernel
theorem dS_repeatLast_67 : decode cS_repeatLast 67 = .ok (.ireturn, 1) := by decide +kernel
theorem dS_openLast_0 : decode cS_openLast 0 = .ok (.aload_n 0, 1) := by decide +kernel
theorem dS_openLast_1 : decode cS_openLast 1 = .ok (.invokevirtual 52, 3) := by decide +kernel
theorem dS_openLast_4 : decode cS_openLast 4 = .ok (.istore_n 1, 1) := by decide +kernel
theorem dS_openLast_5 : decode cS_openLast 5 = .ok (.iload_n 1, 1) := by decide +kernel
theorem dS_openLast_6 : decode cS_openLast 6 = .ok (.ifCond .lt 15, 3) := by decide +kernel
theorem dS_openLast_9 : decode cS_openLast 9 = .ok (.aload_n 0, 1) := by decide +kernel
theorem dS_openLast_10 : decode cS_openLast 10 = .ok (.getfield 9, 3) := by decide +kernel
theorem dS_openLast_13 : decode cS_openLast 13 = .ok (.iload_n 1, 1) := by decide +kernel
theorem dS_openLast_14 : decode cS_openLast 14 = .ok (.iaload, 1) := by decide +kernel
theorem dS_openLast_15 : decode cS_openLast 15 = .ok (.invokestatic 69, 3) := by decide +kernel
theorem dS_openLast_18 : decode cS_openLast 18 = .ok (.ifCond .ne 5, 3) := by decide +kernel
theorem dS_openLast_21 : decode cS_openLast 21 = .ok (.iconst (-1), 1) := by decide +kernel
theorem dS_openLast_22 : decode cS_openLast 22 = .ok (.ireturn, 1) := by decide +kernel
theorem dS_openLast_23 : decode cS_openLast 23 = .ok (.aload_n 0, 1) := by decide +kernel
theorem dS_openLast_24 : decode cS_openLast 24 = .ok (.getfield 9, 3) := by decide +kernel
theorem dS_openLast_27 : decode cS_openLast 27 = .ok (.iload_n 1, 1) := by decide +kernel
theorem dS_openLast_28 : decode cS_openLast 28 = .ok (.iaload, 1) := by decide +kernel
theorem dS_openLast_29 : decode cS_openLast 29 = .ok (.invokestatic 69, 3) := by decide +kernel
theorem dS_openLast_32 : decode cS_openLast 32 = .ok (.istore_n 2, 1) := by decide +kernel
theorem dS_openLast_33 : decode cS_openLast 33 = .ok (.aload_n 0, 1) := by decide +kernel
theorem dS_openLast_34 : decode cS_openLast 34 = .ok (.iload_n 1, 1) := by decide +kernel
theorem dS_openLast_35 : decode cS_openLast 35 = .ok (.iconst 1, 1) := by decide +kernel
theorem dS_openLast_36 : decode cS_openLast 36 = .ok (.iadd, 1) := by decide +kernel
theorem dS_openLast_37 : decode cS_openLast 37 = .ok (.iload_n 1, 1) := by decide +kernel
theorem dS_openLast_38 : decode cS_openLast 38 = .ok (.aload_n 0, 1) := by decide +kernel
theorem dS_openLast_39 : decode cS_openLast 39 = .ok (.getfield 41, 3) := by decide +kernel
theorem dS_openLast_42 : decode cS_openLast 42 = .ok (.iload_n 1, 1) := by decide +kernel
theorem dS_openLast_43 : decode cS_openLast 43 = .ok (.isub, 1) := by decide +kernel
theorem dS_openLast_44 : decode cS_openLast 44 = .ok (.iconst 1, 1) := by decide +kernel
theorem dS_openLast_45 : decode cS_openLast 45 = .ok (.isub, 1) := by decide +kernel
theorem dS_openLast_46 : decode cS_openLast 46 = .ok (.invokevirtual 72, 3) := by decide +kernel
theorem dS_openLast_49 : decode cS_openLast 49 = .ok (.aload_n 0, 1) := by decide +kernel
theorem dS_openLast_50 : decode cS_openLast 50 = .ok (.dup, 1) := by decide +kernel
theorem dS_openLast_51 : decode cS_openLast 51 = .ok (.getfield 41, 3) := by decide +kernel
theorem dS_openLast_54 : decode cS_openLast 54 = .ok (.iconst 1, 1) := by decide +kernel
theorem dS_openLast_55 : decode cS_openLast 55 = .ok (.isub, 1) := by decide +kernel
theorem dS_openLast_56 : decode cS_openLast 56 = .ok (.putfield 41, 3) := by decide +kernel
theorem dS_openLast_59 : decode cS_openLast 59 = .ok (.aload_n 0, 1) := by decide +kernel
theorem dS_openLast_60 : decode cS_openLast 60 = .ok (.dup, 1) := by decide +kernel
theorem dS_openLast_61 : decode cS_openLast 61 = .ok (.getfield 37, 3) := by decide +kernel
theorem dS_openLast_64 : decode cS_openLast 64 = .ok (.iconst 1, 1) := by decide +kernel
theorem dS_openLast_65 : decode cS_openLast 65 = .ok (.isub, 1) := by decide +kernel
theorem dS_openLast_66 : decode cS_openLast 66 = .ok (.putfield 37, 3) := by decide +kernel
theorem dS_openLast_69 : decode cS_openLast 69 = .ok (.iload_n 1, 1) := by decide +kernel
theorem dS_openLast_70 : decode cS_openLast 70 = .ok (.istore_n 3, 1) := by decide +kernel
theorem dS_openLast_71 : decode cS_openLast 71 = .ok (.iconst 0, 1) := by decide +kernel
theorem dS_openLast_72 : decode cS_openLast 72 = .ok (.istore 4, 2) := by decide +kernel
theorem dS_openLast_74 : decode cS_openLast 74 = .ok (.iload 4, 2) := by decide +kernel
theorem dS_openLast_76 : decode cS_openLast 76 = .ok (.iload_n 2, 1) := by decide +kernel
theorem dS_openLast_77 : decode cS_openLast 77 = .ok (.if_icmp .ge 30, 3) := by decide +kernel
theorem dS_openLast_80 : decode cS_openLast 80 = .ok (.iload_n 3, 1) := by decide +kernel
theorem dS_openLast_81 : decode cS_openLast 81 = .ok (.invokestatic 44, 3) := by decide +kernel
theorem dS_openLast_84 : decode cS_openLast 84 = .ok (.ifCond .eq 23, 3) := by decide +kernel
theorem dS_openLast_87 : decode cS_openLast 87 = .ok (.aload_n 0, 1) := by decide +kernel
theorem dS_openLast_88 : decode cS_openLast 88 = .ok (.iload_n 3, 1) := by decide +kernel
theorem dS_openLast_89 : decode cS_openLast 89 = .ok (.invokevirtual 84, 3) := by decide +kernel
theorem dS_openLast_92 : decode cS_openLast 92 = .ok (.iload_n 3, 1) := by decide +kernel
theorem dS_openLast_93 : decode cS_openLast 93 = .ok (.aload_n 0, 1) := by decide +kernel
theorem dS_openLast_94 : decode cS_openLast 94 = .ok (.getfield 22, 3) := by decide +kernel
theorem dS_openLast_97 : decode cS_openLast 97 = .ok (.iload_n 3, 1) := by decide +kernel
theorem dS_openLast_98 : decode cS_openLast 98 = .ok (.iaload, 1) := by decide +kernel
theorem dS_openLast_99 : decode cS_openLast 99 = .ok (.iadd, 1) := by decide +kernel
theorem dS_openLast_100 : decode cS_openLast 100 = .ok (.istore_n 3, 1) := by decide +kernel
theorem dS_openLast_101 : decode cS_openLast 101 = .ok (.iinc 4 1, 3) := by decide +kernel
theorem dS_openLast_104 : decode cS_openLast 104 = .ok (.goto (-30), 3) := by decide +kernel
theorem dS_openLast_107 : decode cS_openLast 107 = .ok (.iload_n 2, 1) := by decide +kernel
theorem dS_openLast_108 : decode cS_openLast 108 = .ok (.ireturn, 1) := by decide +kernel
theorem dS_adopt_0 : decode cS_adopt 0 = .ok (.iload_n 1, 1) := by decide +kernel
theorem dS_adopt_1 : decode cS_adopt 1 = .ok (.sipush 200, 3) := by decide +kernel
theorem dS_adopt_4 : decode cS_adopt 4 = .ok (.invokestatic 93, 3) := by decide +kernel
theorem dS_adopt_7 : decode cS_adopt 7 = .ok (.iconst 1, 1) := by decide +kernel
theorem dS_adopt_8 : decode cS_adopt 8 = .ok (.isub, 1) := by decide +kernel
theorem dS_adopt_9 : decode cS_adopt 9 = .ok (.istore_n 2, 1) := by decide +kernel
theorem dS_adopt_10 : decode cS_adopt 10 = .ok (.iload_n 2, 1) := by decide +kernel
theorem dS_adopt_11 : decode cS_adopt 11 = .ok (.aload_n 0, 1) := by decide +kernel
theorem dS_adopt_12 : decode cS_adopt 12 = .ok (.getfield 41, 3) := by decide +kernel
theorem dS_adopt_15 : decode cS_adopt 15 = .ok (.if_icmp .lt 14, 3) := by decide +kernel
theorem dS_adopt_18 : decode cS_adopt 18 = .ok (.aload_n 0, 1) := by decide +kernel
theorem dS_adopt_19 : decode cS_adopt 19 = .ok (.iload_n 2, 1) := by decide +kernel
theorem dS_adopt_20 : decode cS_adopt 20 = .ok (.invokevirtual 80, 3) := by decide +kernel
theorem dS_adopt_23 : decode cS_adopt 23 = .ok (.iinc 2 (-1), 3) := by decide +kernel
theorem dS_adopt_26 : decode cS_adopt 26 = .ok (.goto (-16), 3) := by decide +kernel
theorem dS_adopt_29 : decode cS_adopt 29 = .ok (.aload_n 0, 1) := by decide +kernel
theorem dS_adopt_30 : decode cS_adopt 30 = .ok (.aload_n 0, 1) := by decide +kernel
theorem dS_adopt_31 : decode cS_adopt 31 = .ok (.getfield 41, 3) := by decide +kernel
theorem dS_adopt_34 : decode cS_adopt 34 = .ok (.invokevirtual 84, 3) := by decide +kernel
theorem dS_adopt_37 : decode cS_adopt 37 = .ok (.aload_n 0, 1) := by decide +kernel
theorem dS_adopt_38 : decode cS_adopt 38 = .ok (.iload_n 1, 1) := by decide +kernel
theorem dS_adopt_39 : decode cS_adopt 39 = .ok (.putfield 41, 3) := by decide +kernel
theorem dS_adopt_42 : decode cS_adopt 42 = .ok (.return_, 1) := by decide +kernel
theorem dS_lastTwoAlike_0 : decode cS_lastTwoAlike 0 = .ok (.aload_n 0, 1) := by decide +kernel
theorem dS_lastTwoAlike_1 : decode cS_lastTwoAlike 1 = .ok (.aload_n 0, 1) := by decide +kernel
theorem dS_lastTwoAlike_2 : decode cS_lastTwoAlike 2 = .ok (.getfield 37, 3) := by decide +kernel
theorem dS_lastTwoAlike_5 : decode cS_lastTwoAlike 5 = .ok (.iconst 2, 1) := by decide +kernel
theorem dS_lastTwoAlike_6 : decode cS_lastTwoAlike 6 = .ok (.isub, 1) := by decide +kernel
theorem dS_lastTwoAlike_7 : decode cS_lastTwoAlike 7 = .ok (.invokevirtual 48, 3) := by decide +kernel
theorem dS_lastTwoAlike_10 : decode cS_lastTwoAlike 10 = .ok (.istore_n 1, 1) := by decide +kernel
theorem dS_lastTwoAlike_11 : decode cS_lastTwoAlike 11 = .ok (.aload_n 0, 1) := by decide +kernel
theorem dS_lastTwoAlike_12 : decode cS_lastTwoAlike 12 = .ok (.aload_n 0, 1) := by decide +kernel
theorem dS_lastTwoAlike_13 : decode cS_lastTwoAlike 13 = .ok (.getfield 37, 3) := by decide +kernel
theorem dS_lastTwoAlike_16 : decode cS_lastTwoAlike 16 = .ok (.iconst 1, 1) := by decide +kernel
theorem dS_lastTwoAlike_17 : decode cS_lastTwoAlike 17 = .ok (.isub, 1) := by decide +kernel
theorem dS_lastTwoAlike_18 : decode cS_lastTwoAlike 18 = .ok (.invokevirtual 48, 3) := by decide +kernel
theorem dS_lastTwoAlike_21 : decode cS_lastTwoAlike 21 = .ok (.istore_n 2, 1) := by decide +kernel
theorem dS_lastTwoAlike_22 : decode cS_lastTwoAlike 22 = .ok (.iload_n 1, 1) := by decide +kernel
theorem dS_lastTwoAlike_23 : decode cS_lastTwoAlike 23 = .ok (.ifCond .lt 22, 3) := by decide +kernel
theorem dS_lastTwoAlike_26 : decode cS_lastTwoAlike 26 = .ok (.iload_n 2, 1) := by decide +kernel
theorem dS_lastTwoAlike_27 : decode cS_lastTwoAlike 27 = .ok (.ifCond .lt 18, 3) := by decide +kernel
theorem dS_lastTwoAlike_30 : decode cS_lastTwoAlike 30 = .ok (.aload_n 0, 1) := by decide +kernel
theorem dS_lastTwoAlike_31 : decode cS_lastTwoAlike 31 = .ok (.getfield 22, 3) := by decide +kernel
theorem dS_lastTwoAlike_34 : decode cS_lastTwoAlike 34 = .ok (.iload_n 1, 1) := by decide +kernel
theorem dS_lastTwoAlike_35 : decode cS_lastTwoAlike 35 = .ok (.iaload, 1) := by decide +kernel
theorem dS_lastTwoAlike_36 : decode cS_lastTwoAlike 36 = .ok (.aload_n 0, 1) := by decide +kernel
theorem dS_lastTwoAlike_37 : decode cS_lastTwoAlike 37 = .ok (.getfield 22, 3) := by decide +kernel
theorem dS_lastTwoAlike_40 : decode cS_lastTwoAlike 40 = .ok (.iload_n 2, 1) := by decide +kernel
theorem dS_lastTwoAlike_41 : decode cS_lastTwoAlike 41 = .ok (.iaload, 1) := by decide +kernel
theorem dS_lastTwoAlike_42 : decode cS_lastTwoAlike 42 = .ok (.if_icmp .eq 5, 3) := by decide +kernel
theorem dS_lastTwoAlike_45 : decode cS_lastTwoAlike 45 = .ok (.iconst 0, 1) := by decide +kernel
theorem dS_lastTwoAlike_46 : decode cS_lastTwoAlike 46 = .ok (.ireturn, 1) := by decide +kernel
theorem dS_lastTwoAlike_47 : decode cS_lastTwoAlike 47 = .ok (.iconst 0, 1) := by decide +kernel
theorem dS_lastTwoAlike_48 : decode cS_lastTwoAlike 48 = .ok (.istore_n 3, 1) := by decide +kernel
theorem dS_lastTwoAlike_49 : decode cS_lastTwoAlike 49 = .ok (.iload_n 3, 1) := by decide +kernel
theorem dS_lastTwoAlike_50 : decode cS_lastTwoAlike 50 = .ok (.aload_n 0, 1) := by decide +kernel
theorem dS_lastTwoAlike_51 : decode cS_lastTwoAlike 51 = .ok (.getfield 22, 3) := by decide +kernel
theorem dS_lastTwoAlike_54 : decode cS_lastTwoAlike 54 = .ok (.iload_n 1, 1) := by decide +kernel
theorem dS_lastTwoAlike_55 : decode cS_lastTwoAlike 55 = .ok (.iaload, 1) := by decide +kernel
theorem dS_lastTwoAlike_56 : decode cS_lastTwoAlike 56 = .ok (.if_icmp .ge 42, 3) := by decide +kernel
theorem dS_lastTwoAlike_59 : decode cS_lastTwoAlike 59 = .ok (.iload_n 1, 1) := by decide +kernel
theorem dS_lastTwoAlike_60 : decode cS_lastTwoAlike 60 = .ok (.iload_n 3, 1) := by decide +kernel
theorem dS_lastTwoAlike_61 : decode cS_lastTwoAlike 61 = .ok (.iadd, 1) := by decide +kernel
theorem dS_lastTwoAlike_62 : decode cS_lastTwoAlike 62 = .ok (.invokestatic 44, 3) := by decide +kernel
theorem dS_lastTwoAlike_65 : decode cS_lastTwoAlike 65 = .ok (.ifCond .eq 33, 3) := by decide +kernel
theorem dS_lastTwoAlike_68 : decode cS_lastTwoAlike 68 = .ok (.iload_n 2, 1) := by decide +kernel
theorem dS_lastTwoAlike_69 : decode cS_lastTwoAlike 69 = .ok (.iload_n 3, 1) := by decide +kernel
theorem dS_lastTwoAlike_70 : decode cS_lastTwoAlike 70 = .ok (.iadd, 1) := by decide +kernel
theorem dS_lastTwoAlike_71 : decode cS_lastTwoAlike 71 = .ok (.invokestatic 44, 3) := by decide +kernel
theorem dS_lastTwoAlike_74 : decode cS_lastTwoAlike 74 = .ok (.ifCond .eq 24, 3) := by decide +kernel
theorem dS_lastTwoAlike_77 : decode cS_lastTwoAlike 77 = .ok (.aload_n 0, 1) := by decide +kernel
theorem dS_lastTwoAlike_78 : decode cS_lastTwoAlike 78 = .ok (.iload_n 1, 1) := by decide +kernel
theorem dS_lastTwoAlike_79 : decode cS_lastTwoAlike 79 = .ok (.iload_n 3, 1) := by decide +kernel
theorem dS_lastTwoAlike_80 : decode cS_lastTwoAlike 80 = .ok (.iadd, 1) := by decide +kernel
theorem dS_lastTwoAlike_81 : decode cS_lastTwoAlike 81 = .ok (.iload_n 2, 1) := by decide +kernel
theorem dS_lastTwoAlike_82 : decode cS_lastTwoAlike 82 = .ok (.iload_n 3, 1) := by decide +kernel
theorem dS_lastTwoAlike_83 : decode cS_lastTwoAlike 83 = .ok (.iadd, 1) := by decide +kernel
theorem dS_lastTwoAlike_84 : decode cS_lastTwoAlike 84 = .ok (.invokevirtual 99, 3) := by decide +kernel
theorem dS_lastTwoAlike_87 : decode cS_lastTwoAlike 87 = .ok (.ifCond .ne 5, 3) := by decide +kernel
theorem dS_lastTwoAlike_90 : decode cS_lastTwoAlike 90 = .ok (.iconst 0, 1) := by decide +kernel
theorem dS_lastTwoAlike_91 : decode cS_lastTwoAlike 91 = .ok (.ireturn, 1) := by decide +kernel
theorem dS_lastTwoAlike_92 : decode cS_lastTwoAlike 92 = .ok (.iinc 3 1, 3) := by decide +kernel
theorem dS_lastTwoAlike_95 : decode cS_lastTwoAlike 95 = .ok (.goto (-46), 3) := by decide +kernel
theorem dS_lastTwoAlike_98 : decode cS_lastTwoAlike 98 = .ok (.iconst 1, 1) := by decide +kernel
theorem dS_lastTwoAlike_99 : decode cS_lastTwoAlike 99 = .ok (.ireturn, 1) := by decide +kernel
theorem dS_appendNode_0 : decode cS_appendNode 0 = .ok (.aload_n 0, 1) := by decide +kernel
theorem dS_appendNode_1 : decode cS_appendNode 1 = .ok (.getfield 9, 3) := by decide +kernel
theorem dS_appendNode_4 : decode cS_appendNode 4 = .ok (.iload_n 1, 1) := by decide +kernel
theorem dS_appendNode_5 : decode cS_appendNode 5 = .ok (.iaload, 1) := by decide +kernel
theorem dS_appendNode_6 : decode cS_appendNode 6 = .ok (.istore_n 3, 1) := by decide +kernel
theorem dS_appendNode_7 : decode cS_appendNode 7 = .ok (.aload_n 0, 1) := by decide +kernel
theorem dS_appendNode_8 : decode cS_appendNode 8 = .ok (.getfield 15, 3) := by decide +kernel
theorem dS_appendNode_11 : decode cS_appendNode 11 = .ok (.iload_n 1, 1) := by decide +kernel
theorem dS_appendNode_12 : decode cS_appendNode 12 = .ok (.laload, 1) := by decide +kernel
theorem dS_appendNode_13 : decode cS_appendNode 13 = .ok (.lstore 4, 2) := by decide +kernel
theorem dS_appendNode_15 : decode cS_appendNode 15 = .ok (.aload_n 2, 1) := by decide +kernel
theorem dS_appendNode_16 : decode cS_appendNode 16 = .ok (.iload_n 3, 1) := by decide +kernel
theorem dS_appendNode_17 : decode cS_appendNode 17 = .ok (.invokevirtual 103, 3) := by decide +kernel
theorem dS_appendNode_20 : decode cS_appendNode 20 = .ok (.iload_n 3, 1) := by decide +kernel
theorem dS_appendNode_21 : decode cS_appendNode 21 = .ok (.ifCond .ne 17, 3) := by decide +kernel
theorem dS_appendNode_24 : decode cS_appendNode 24 = .ok (.aload_n 2, 1) := by decide +kernel
theorem dS_appendNode_25 : decode cS_appendNode 25 = .ok (.lload 4, 2) := by decide +kernel
theorem dS_appendNode_27 : decode cS_appendNode 27 = .ok (.lload 4, 2) := by decide +kernel
theorem dS_appendNode_29 : decode cS_appendNode 29 = .ok (.invokestatic 108, 3) := by decide +kernel
theorem dS_appendNode_32 : decode cS_appendNode 32 = .ok (.invokevirtual 112, 3) := by decide +kernel
theorem dS_appendNode_35 : decode cS_appendNode 35 = .ok (.goto 48, 3) := by decide +kernel
theorem dS_appendNode_38 : decode cS_appendNode 38 = .ok (.iload_n 3, 1) := by decide +kernel
theorem dS_appendNode_39 : decode cS_appendNode 39 = .ok (.bipush 7, 2) := by decide +kernel
theorem dS_appendNode_41 : decode cS_appendNode 41 = .ok (.if_icmp .ne 17, 3) := by decide +kernel
theorem dS_appendNode_44 : decode cS_appendNode 44 = .ok (.aload_n 2, 1) := by decide +kernel
theorem dS_appendNode_45 : decode cS_appendNode 45 = .ok (.lload 4, 2) := by decide +kernel
theorem dS_appendNode_47 : decode cS_appendNode 47 = .ok (.lload 4, 2) := by decide +kernel
theorem dS_appendNode_49 : decode cS_appendNode 49 = .ok (.invokestatic 116, 3) := by decide +kernel
theorem dS_appendNode_52 : decode cS_appendNode 52 = .ok (.invokevirtual 112, 3) := by decide +kernel
theorem dS_appendNode_55 : decode cS_appendNode 55 = .ok (.goto 28, 3) := by decide +kernel
theorem dS_appendNode_58 : decode cS_appendNode 58 = .ok (.iload_n 3, 1) := by decide +kernel
theorem dS_appendNode_59 : decode cS_appendNode 59 = .ok (.bipush 6, 2) := by decide +kernel
theorem dS_appendNode_61 : decode cS_appendNode 61 = .ok (.if_icmp .eq 15, 3) := by decide +kernel
theorem dS_appendNode_64 : decode cS_appendNode 64 = .ok (.iload_n 3, 1) := by decide +kernel
theorem dS_appendNode_65 : decode cS_appendNode 65 = .ok (.bipush 9, 2) := by decide +kernel
theorem dS_appendNode_67 : decode cS_appendNode 67 = .ok (.if_icmp .eq 9, 3) := by decide +kernel
theorem dS_appendNode_70 : decode cS_appendNode 70 = .ok (.iload_n 3, 1) := by decide +kernel
theorem dS_appendNode_71 : decode cS_appendNode 71 = .ok (.bipush 8, 2) := by decide +kernel
theorem dS_appendNode_73 : decode cS_appendNode 73 = .ok (.if_icmp .ne 10, 3) := by decide +kernel
theorem dS_appendNode_76 : decode cS_appendNode 76 = .ok (.aload_n 2, 1) := by decide +kernel
theorem dS_appendNode_77 : decode cS_appendNode 77 = .ok (.lload 4, 2) := by decide +kernel
theorem dS_appendNode_79 : decode cS_appendNode 79 = .ok (.l2i, 1) := by decide +kernel
theorem dS_appendNode_80 : decode cS_appendNode 80 = .ok (.invokevirtual 103, 3) := by decide +kernel
theorem dS_appendNode_83 : decode cS_appendNode 83 = .ok (.iconst 0, 1) := by decide +kernel
theorem dS_appendNode_84 : decode cS_appendNode 84 = .ok (.istore 6, 2) := by decide +kernel
theorem dS_appendNode_86 : decode cS_appendNode 86 = .ok (.iload 6, 2) := by decide +kernel
theorem dS_appendNode_88 : decode cS_appendNode 88 = .ok (.aload_n 0, 1) := by decide +kernel
theorem dS_appendNode_89 : decode cS_appendNode 89 = .ok (.iload_n 1, 1) := by decide +kernel
theorem dS_appendNode_90 : decode cS_appendNode 90 = .ok (.invokevirtual 87, 3) := by decide +kernel
theorem dS_appendNode_93 : decode cS_appendNode 93 = .ok (.if_icmp .ge 20, 3) := by decide +kernel
theorem dS_appendNode_96 : decode cS_appendNode 96 = .ok (.aload_n 2, 1) := by decide +kernel
theorem dS_appendNode_97 : decode cS_appendNode 97 = .ok (.aload_n 0, 1) := by decide +kernel
theorem dS_appendNode_98 : decode cS_appendNode 98 = .ok (.iload_n 1, 1) := by decide +kernel
theorem dS_appendNode_99 : decode cS_appendNode 99 = .ok (.iload 6, 2) := by decide +kernel
theorem dS_appendNode_101 : decode cS_appendNode 101 = .ok (.invokevirtual 119, 3) := by decide +kernel
theorem dS_appendNode_104 : decode cS_appendNode 104 = .ok (.invokevirtual 103, 3) := by decide +kernel
theorem dS_appendNode_107 : decode cS_appendNode 107 = .ok (.iinc 6 1, 3) := by decide +kernel
theorem dS_appendNode_110 : decode cS_appendNode 110 = .ok (.goto (-24), 3) := by decide +kernel
theorem dS_appendNode_113 : decode cS_appendNode 113 = .ok (.return_, 1) := by decide +kernel
theorem dS_alike_0 : decode cS_alike 0 = .ok (.aload_n 0, 1) := by decide +kernel
theorem dS_alike_1 : decode cS_alike 1 = .ok (.getfield 9, 3) := by decide +kernel
theorem dS_alike_4 : decode cS_alike 4 = .ok (.iload_n 1, 1) := by decide +kernel
theorem dS_alike_5 : decode cS_alike 5 = .ok (.iaload, 1) := by decide +kernel
theorem dS_alike_6 : decode cS_alike 6 = .ok (.aload_n 0, 1) := by decide +kernel
theorem dS_alike_7 : decode cS_alike 7 = .ok (.getfield 9, 3) := by decide +kernel
theorem dS_alike_10 : decode cS_alike 10 = .ok (.iload_n 2, 1) := by decide +kernel
theorem dS_alike_11 : decode cS_alike 11 = .ok (.iaload, 1) := by decide +kernel
theorem dS_alike_12 : decode cS_alike 12 = .ok (.if_icmp .ne 19, 3) := by decide +kernel
theorem dS_alike_15 : decode cS_alike 15 = .ok (.aload_n 0, 1) := by decide +kernel
theorem dS_alike_16 : decode cS_alike 16 = .ok (.getfield 15, 3) := by decide +kernel
theorem dS_alike_19 : decode cS_alike 19 = .ok (.iload_n 1, 1) := by decide +kernel
theorem dS_alike_20 : decode cS_alike 20 = .ok (.laload, 1) := by decide +kernel
theorem dS_alike_21 : decode cS_alike 21 = .ok (.aload_n 0, 1) := by decide +kernel
theorem dS_alike_22 : decode cS_alike 22 = .ok (.getfield 15, 3) := by decide +kernel
theorem dS_alike_25 : decode cS_alike 25 = .ok (.iload_n 2, 1) := by decide +kernel
theorem dS_alike_26 : decode cS_alike 26 = .ok (.laload, 1) := by decide +kernel
theorem dS_alike_27 : decode cS_alike 27 = .ok (.lcmp, 1) := by decide +kernel
theorem dS_alike_28 : decode cS_alike 28 = .ok (.ifCond .eq 5, 3) := by decide +kernel
theorem dS_alike_31 : decode cS_alike 31 = .ok (.iconst 0, 1) := by decide +kernel
theorem dS_alike_32 : decode cS_alike 32 = .ok (.ireturn, 1) := by decide +kernel
theorem dS_alike_33 : decode cS_alike 33 = .ok (.iconst 0, 1) := by decide +kernel
theorem dS_alike_34 : decode cS_alike 34 = .ok (.istore_n 3, 1) := by decide +kernel
theorem dS_alike_35 : decode cS_alike 35 = .ok (.iload_n 3, 1) := by decide +kernel
theorem dS_alike_36 : decode cS_alike 36 = .ok (.aload_n 0, 1) := by decide +kernel
theorem dS_alike_37 : decode cS_alike 37 = .ok (.iload_n 1, 1) := by decide +kernel
theorem dS_alike_38 : decode cS_alike 38 = .ok (.invokevirtual 87, 3) := by decide +kernel
theorem dS_alike_41 : decode cS_alike 41 = .ok (.if_icmp .ge 26, 3) := by decide +kernel
theorem dS_alike_44 : decode cS_alike 44 = .ok (.aload_n 0, 1) := by decide +kernel
theorem dS_alike_45 : decode cS_alike 45 = .ok (.iload_n 1, 1) := by decide +kernel
theorem dS_alike_46 : decode cS_alike 46 = .ok (.iload_n 3, 1) := by decide +kernel
theorem dS_alike_47 : decode cS_alike 47 = .ok (.invokevirtual 119, 3) := by decide +kernel
theorem dS_alike_50 : decode cS_alike 50 = .ok (.aload_n 0, 1) := by decide +kernel
theorem dS_alike_51 : decode cS_alike 51 = .ok (.iload_n 2, 1) := by decide +kernel
theorem dS_alike_52 : decode cS_alike 52 = .ok (.iload_n 3, 1) := by decide +kernel
theorem dS_alike_53 : decode cS_alike 53 = .ok (.invokevirtual 119, 3) := by decide +kernel
theorem dS_alike_56 : decode cS_alike 56 = .ok (.if_icmp .eq 5, 3) := by decide +kernel
theorem dS_alike_59 : decode cS_alike 59 = .ok (.iconst 0, 1) := by decide +kernel
theorem dS_alike_60 : decode cS_alike 60 = .ok (.ireturn, 1) := by decide +kernel
theorem dS_alike_61 : decode cS_alike 61 = .ok (.iinc 3 1, 3) := by decide +kernel
theorem dS_alike_64 : decode cS_alike 64 = .ok (.goto (-29), 3) := by decide +kernel
theorem dS_alike_67 : decode cS_alike 67 = .ok (.iconst 1, 1) := by decide +kernel
theorem dS_alike_68 : decode cS_alike 68 = .ok (.ireturn, 1) := by decide +kernel
theorem dS_pushTerm_0 : decode cS_pushTerm 0 = .ok (.aload_n 0, 1) := by decide +kernel
theorem dS_pushTerm_1 : decode cS_pushTerm 1 = .ok (.getfield 37, 3) := by decide +kernel
theorem dS_pushTerm_4 : decode cS_pushTerm 4 = .ok (.sipush 200, 3) := by decide +kernel
theorem dS_pushTerm_7 : decode cS_pushTerm 7 = .ok (.if_icmp .ge 23, 3) := by decide +kernel
theorem dS_pushTerm_10 : decode cS_pushTerm 10 = .ok (.aload_n 0, 1) := by decide +kernel
theorem dS_pushTerm_11 : decode cS_pushTerm 11 = .ok (.getfield 34, 3) := by decide +kernel
theorem dS_pushTerm_14 : decode cS_pushTerm 14 = .ok (.aload_n 0, 1) := by decide +kernel
theorem dS_pushTerm_15 : decode cS_pushTerm 15 = .ok (.getfield 37, 3) := by decide +kernel
theorem dS_pushTerm_18 : decode cS_pushTerm 18 = .ok (.iload_n 1, 1) := by decide +kernel
theorem dS_pushTerm_19 : decode cS_pushTerm 19 = .ok (.iastore, 1) := by decide +kernel
theorem dS_pushTerm_20 : decode cS_pushTerm 20 = .ok (.aload_n 0, 1) := by decide +kernel
theorem dS_pushTerm_21 : decode cS_pushTerm 21 = .ok (.dup, 1) := by decide +kernel
theorem dS_pushTerm_22 : decode cS_pushTerm 22 = .ok (.getfield 37, 3) := by decide +kernel
theorem dS_pushTerm_25 : decode cS_pushTerm 25 = .ok (.iconst 1, 1) := by decide +kernel
theorem dS_pushTerm_26 : decode cS_pushTerm 26 = .ok (.iadd, 1) := by decide +kernel
theorem dS_pushTerm_27 : decode cS_pushTerm 27 = .ok (.putfield 37, 3) := by decide +kernel
theorem dS_pushTerm_30 : decode cS_pushTerm 30 = .ok (.return_, 1) := by decide +kernel
theorem dS_settle_0 : decode cS_settle 0 = .ok (.aload_n 0, 1) := by decide +kernel
theorem dS_settle_1 : decode cS_settle 1 = .ok (.getfield 9, 3) := by decide +kernel
theorem dS_settle_4 : decode cS_settle 4 = .ok (.iload_n 1, 1) := by decide +kernel
theorem dS_settle_5 : decode cS_settle 5 = .ok (.iaload, 1) := by decide +kernel
theorem dS_settle_6 : decode cS_settle 6 = .ok (.istore_n 2, 1) := by decide +kernel
theorem dS_settle_7 : decode cS_settle 7 = .ok (.iconst 1, 1) := by decide +kernel
theorem dS_settle_8 : decode cS_settle 8 = .ok (.istore_n 3, 1) := by decide +kernel
theorem dS_settle_9 : decode cS_settle 9 = .ok (.iconst 0, 1) := by decide +kernel
theorem dS_settle_10 : decode cS_settle 10 = .ok (.istore 4, 2) := by decide +kernel
theorem dS_settle_12 : decode cS_settle 12 = .ok (.iload_n 2, 1) := by decide +kernel
theorem dS_settle_13 : decode cS_settle 13 = .ok (.ifCond .ne 13, 3) := by decide +kernel
theorem dS_settle_16 : decode cS_settle 16 = .ok (.aload_n 0, 1) := by decide +kernel
theorem dS_settle_17 : decode cS_settle 17 = .ok (.getfield 15, 3) := by decide +kernel
theorem dS_settle_20 : decode cS_settle 20 = .ok (.iload_n 1, 1) := by decide +kernel
theorem dS_settle_21 : decode cS_settle 21 = .ok (.laload, 1) := by decide +kernel
theorem dS_settle_22 : decode cS_settle 22 = .ok (.l2i, 1) := by decide +kernel
theorem dS_settle_23 : decode cS_settle 23 = .ok (.goto 4, 3) := by decide +kernel
theorem dS_settle_26 : decode cS_settle 26 = .ok (.iconst 0, 1) := by decide +kernel
theorem dS_settle_27 : decode cS_settle 27 = .ok (.istore 5, 2) := by decide +kernel
theorem dS_settle_29 : decode cS_settle 29 = .ok (.iload_n 2, 1) := by decide +kernel
theorem dS_settle_30 : decode cS_settle 30 = .ok (.aload_n 0, 1) := by decide +kernel
theorem dS_settle_31 : decode cS_settle 31 = .ok (.getfield 15, 3) := by decide +kernel
theorem dS_settle_34 : decode cS_settle 34 = .ok (.iload_n 1, 1) := by decide +kernel
theorem dS_settle_35 : decode cS_settle 35 = .ok (.laload, 1) := by decide +kernel
theorem dS_settle_36 : decode cS_settle 36 = .ok (.invokestatic 122, 3) := by decide +kernel
theorem dS_settle_39 : decode cS_settle 39 = .ok (.istore 6, 2) := by decide +kernel
theorem dS_settle_41 : decode cS_settle 41 = .ok (.iload_n 2, 1) := by decide +kernel
theorem dS_settle_42 : decode cS_settle 42 = .ok (.invokestatic 69, 3) := by decide +kernel
theorem dS_settle_45 : decode cS_settle 45 = .ok (.istore 7, 2) := by decide +kernel
theorem dS_settle_47 : decode cS_settle 47 = .ok (.iconst 0, 1) := by decide +kernel
theorem dS_settle_48 : decode cS_settle 48 = .ok (.istore 8, 2) := by decide +kernel
theorem dS_settle_50 : decode cS_settle 50 = .ok (.iload 8, 2) := by decide +kernel
theorem dS_settle_52 : decode cS_settle 52 = .ok (.iload 7, 2) := by decide +kernel
theorem dS_settle_54 : decode cS_settle 54 = .ok (.if_icmp .ge 73, 3) := by decide +kernel
theorem dS_settle_57 : decode cS_settle 57 = .ok (.iload_n 1, 1) := by decide +kernel
theorem dS_settle_58 : decode cS_settle 58 = .ok (.iload_n 3, 1) := by decide +kernel
theorem dS_settle_59 : decode cS_settle 59 = .ok (.iadd, 1) := by decide +kernel
theorem dS_settle_60 : decode cS_settle 60 = .ok (.sipush 200, 3) := by decide +kernel
theorem dS_settle_63 : decode cS_settle 63 = .ok (.if_icmp .ge 64, 3) := by decide +kernel
theorem dS_settle_66 : decode cS_settle 66 = .ok (.iload_n 1, 1) := by decide +kernel
theorem dS_settle_67 : decode cS_settle 67 = .ok (.iload_n 3, 1) := by decide +kernel
theorem dS_settle_68 : decode cS_settle 68 = .ok (.iadd, 1) := by decide +kernel
theorem dS_settle_69 : decode cS_settle 69 = .ok (.istore 9, 2) := by decide +kernel
theorem dS_settle_71 : decode cS_settle 71 = .ok (.iload 4, 2) := by decide +kernel
theorem dS_settle_73 : decode cS_settle 73 = .ok (.aload_n 0, 1) := by decide +kernel
theorem dS_settle_74 : decode cS_settle 74 = .ok (.getfield 25, 3) := by decide +kernel
theorem dS_settle_77 : decode cS_settle 77 = .ok (.iload 9, 2) := by decide +kernel
theorem dS_settle_79 : decode cS_settle 79 = .ok (.iaload, 1) := by decide +kernel
theorem dS_settle_80 : decode cS_settle 80 = .ok (.invokestatic 126, 3) := by decide +kernel
theorem dS_settle_83 : decode cS_settle 83 = .ok (.istore 4, 2) := by decide +kernel
theorem dS_settle_85 : decode cS_settle 85 = .ok (.iload 5, 2) := by decide +kernel
theorem dS_settle_87 : decode cS_settle 87 = .ok (.aload_n 0, 1) := by decide +kernel
theorem dS_settle_88 : decode cS_settle 88 = .ok (.getfield 28, 3) := by decide +kernel
theorem dS_settle_91 : decode cS_settle 91 = .ok (.iload 9, 2) := by decide +kernel
theorem dS_settle_93 : decode cS_settle 93 = .ok (.iaload, 1) := by decide +kernel
theorem dS_settle_94 : decode cS_settle 94 = .ok (.invokestatic 126, 3) := by decide +kernel
theorem dS_settle_97 : decode cS_settle 97 = .ok (.istore 5, 2) := by decide +kernel
theorem dS_settle_99 : decode cS_settle 99 = .ok (.iload 6, 2) := by decide +kernel
theorem dS_settle_101 : decode cS_settle 101 = .ok (.aload_n 0, 1) := by decide +kernel
theorem dS_settle_102 : decode cS_settle 102 = .ok (.getfield 31, 3) := by decide +kernel
theorem dS_settle_105 : decode cS_settle 105 = .ok (.iload 9, 2) := by decide +kernel
theorem dS_settle_107 : decode cS_settle 107 = .ok (.iaload, 1) := by decide +kernel
theorem dS_settle_108 : decode cS_settle 108 = .ok (.iadd, 1) := by decide +kernel
theorem dS_settle_109 : decode cS_settle 109 = .ok (.istore 6, 2) := by decide +kernel
theorem dS_settle_111 : decode cS_settle 111 = .ok (.iload_n 3, 1) := by decide +kernel
theorem dS_settle_112 : decode cS_settle 112 = .ok (.aload_n 0, 1) := by decide +kernel
theorem dS_settle_113 : decode cS_settle 113 = .ok (.getfield 22, 3) := by decide +kernel
theorem dS_settle_116 : decode cS_settle 116 = .ok (.iload 9, 2) := by decide +kernel
theorem dS_settle_118 : decode cS_settle 118 = .ok (.iaload, 1) := by decide +kernel
theorem dS_settle_119 : decode cS_settle 119 = .ok (.iadd, 1) := by decide +kernel
theorem dS_settle_120 : decode cS_settle 120 = .ok (.istore_n 3, 1) := by decide +kernel
theorem dS_settle_121 : decode cS_settle 121 = .ok (.iinc 8 1, 3) := by decide +kernel
theorem dS_settle_124 : decode cS_settle 124 = .ok (.goto (-74), 3) := by decide +kernel
theorem dS_settle_127 : decode cS_settle 127 = .ok (.aload_n 0, 1) := by decide +kernel
theorem dS_settle_128 : decode cS_settle 128 = .ok (.getfield 22, 3) := by decide +kernel
theorem dS_settle_131 : decode cS_settle 131 = .ok (.iload_n 1, 1) := by decide +kernel
theorem dS_settle_132 : decode cS_settle 132 = .ok (.iload_n 3, 1) := by decide +kernel
theorem dS_settle_133 : decode cS_settle 133 = .ok (.iastore, 1) := by decide +kernel
theorem dS_settle_134 : decode cS_settle 134 = .ok (.aload_n 0, 1) := by decide +kernel
theorem dS_settle_135 : decode cS_settle 135 = .ok (.getfield 25, 3) := by decide +kernel
theorem dS_settle_138 : decode cS_settle 138 = .ok (.iload_n 1, 1) := by decide +kernel
theorem dS_settle_139 : decode cS_settle 139 = .ok (.iload 4, 2) := by decide +kernel
theorem dS_settle_141 : decode cS_settle 141 = .ok (.iconst 1, 1) := by decide +kernel
theorem dS_settle_142 : decode cS_settle 142 = .ok (.iadd, 1) := by decide +kernel
theorem dS_settle_143 : decode cS_settle 143 = .ok (.iastore, 1) := by decide +kernel
theorem dS_settle_144 : decode cS_settle 144 = .ok (.aload_n 0, 1) := by decide +kernel
theorem dS_settle_145 : decode cS_settle 145 = .ok (.getfield 28, 3) := by decide +kernel
theorem dS_settle_148 : decode cS_settle 148 = .ok (.iload_n 1, 1) := by decide +kernel
theorem dS_settle_149 : decode cS_settle 149 = .ok (.iload_n 2, 1) := by decide +kernel
theorem dS_settle_150 : decode cS_settle 150 = .ok (.iconst 1, 1) := by decide +kernel
theorem dS_settle_151 : decode cS_settle 151 = .ok (.if_icmp .ne 15, 3) := by decide +kernel
theorem dS_settle_154 : decode cS_settle 154 = .ok (.iload 5, 2) := by decide +kernel
theorem dS_settle_156 : decode cS_settle 156 = .ok (.ifCond .le 10, 3) := by decide +kernel
theorem dS_settle_159 : decode cS_settle 159 = .ok (.iload 5, 2) := by decide +kernel
theorem dS_settle_161 : decode cS_settle 161 = .ok (.iconst 1, 1) := by decide +kernel
theorem dS_settle_162 : decode cS_settle 162 = .ok (.isub, 1) := by decide +kernel
theorem dS_settle_163 : decode cS_settle 163 = .ok (.goto 5, 3) := by decide +kernel
theorem dS_settle_166 : decode cS_settle 166 = .ok (.iload 5, 2) := by decide +kernel
theorem dS_settle_168 : decode cS_settle 168 = .ok (.iastore, 1) := by decide +kernel
theorem dS_settle_169 : decode cS_settle 169 = .ok (.aload_n 0, 1) := by decide +kernel
theorem dS_settle_170 : decode cS_settle 170 = .ok (.getfield 31, 3) := by decide +kernel
theorem dS_settle_173 : decode cS_settle 173 = .ok (.iload_n 1, 1) := by decide +kernel
theorem dS_settle_174 : decode cS_settle 174 = .ok (.iload 6, 2) := by decide +kernel
theorem dS_settle_176 : decode cS_settle 176 = .ok (.iastore, 1) := by decide +kernel
theorem dS_settle_177 : decode cS_settle 177 = .ok (.return_, 1) := by decide +kernel
theorem dS_copyNodes_0 : decode cS_copyNodes 0 = .ok (.iload_n 1, 1) := by decide +kernel
theorem dS_copyNodes_1 : decode cS_copyNodes 1 = .ok (.ifCond .lt 24, 3) := by decide +kernel
theorem dS_copyNodes_4 : decode cS_copyNodes 4 = .ok (.iload_n 2, 1) := by decide +kernel
theorem dS_copyNodes_5 : decode cS_copyNodes 5 = .ok (.ifCond .lt 20, 3) := by decide +kernel
theorem dS_copyNodes_8 : decode cS_copyNodes 8 = .ok (.iload_n 3, 1) := by decide +kernel
theorem dS_copyNodes_9 : decode cS_copyNodes 9 = .ok (.ifCond .lt 16, 3) := by decide +kernel
theorem dS_copyNodes_12 : decode cS_copyNodes 12 = .ok (.iload_n 1, 1) := by decide +kernel
theorem dS_copyNodes_13 : decode cS_copyNodes 13 = .ok (.iload_n 2, 1) := by decide +kernel
theorem dS_copyNodes_14 : decode cS_copyNodes 14 = .ok (.invokestatic 126, 3) := by decide +kernel
theorem dS_copyNodes_17 : decode cS_copyNodes 17 = .ok (.sipush 200, 3) := by decide +kernel
theorem dS_copyNodes_20 : decode cS_copyNodes 20 = .ok (.iload_n 3, 1) := by decide +kernel
theorem dS_copyNodes_21 : decode cS_copyNodes 21 = .ok (.isub, 1) := by decide +kernel
theorem dS_copyNodes_22 : decode cS_copyNodes 22 = .ok (.if_icmp .le 4, 3) := by decide +kernel
theorem dS_copyNodes_25 : decode cS_copyNodes 25 = .ok (.return_, 1) := by decide +kernel
theorem dS_copyNodes_26 : decode cS_copyNodes 26 = .ok (.aload_n 0, 1) := by decide +kernel
theorem dS_copyNodes_27 : decode cS_copyNodes 27 = .ok (.getfield 9, 3) := by decide +kernel
theorem dS_copyNodes_30 : decode cS_copyNodes 30 = .ok (.iload_n 1, 1) := by decide +kernel
theorem dS_copyNodes_31 : decode cS_copyNodes 31 = .ok (.aload_n 0, 1) := by decide +kernel
theorem dS_copyNodes_32 : decode cS_copyNodes 32 = .ok (.getfield 9, 3) := by decide +kernel
theorem dS_copyNodes_35 : decode cS_copyNodes 35 = .ok (.iload_n 2, 1) := by decide +kernel
theorem dS_copyNodes_36 : decode cS_copyNodes 36 = .ok (.iload_n 3, 1) := by decide +kernel
theorem dS_copyNodes_37 : decode cS_copyNodes 37 = .ok (.invokestatic 129, 3) := by decide +kernel
theorem dS_copyNodes_40 : decode cS_copyNodes 40 = .ok (.aload_n 0, 1) := by decide +kernel
theorem dS_copyNodes_41 : decode cS_copyNodes 41 = .ok (.getfield 15, 3) := by decide +kernel
theorem dS_copyNodes_44 : decode cS_copyNodes 44 = .ok (.iload_n 1, 1) := by decide +kernel
theorem dS_copyNodes_45 : decode cS_copyNodes 45 = .ok (.aload_n 0, 1) := by decide +kernel
theorem dS_copyNodes_46 : decode cS_copyNodes 46 = .ok (.getfield 15, 3) := by decide +kernel
theorem dS_copyNodes_49 : decode cS_copyNodes 49 = .ok (.iload_n 2, 1) := by decide +kernel
theorem dS_copyNodes_50 : decode cS_copyNodes 50 = .ok (.iload_n 3, 1) := by decide +kernel
theorem dS_copyNodes_51 : decode cS_copyNodes 51 = .ok (.invokestatic 129, 3) := by decide +kernel
theorem dS_copyNodes_54 : decode cS_copyNodes 54 = .ok (.aload_n 0, 1) := by decide +kernel
theorem dS_copyNodes_55 : decode cS_copyNodes 55 = .ok (.getfield 19, 3) := by decide +kernel
theorem dS_copyNodes_58 : decode cS_copyNodes 58 = .ok (.iload_n 1, 1) := by decide +kernel
theorem dS_copyNodes_59 : decode cS_copyNodes 59 = .ok (.bipush 8, 2) := by decide +kernel
theorem dS_copyNodes_61 : decode cS_copyNodes 61 = .ok (.imul, 1) := by decide +kernel
theorem dS_copyNodes_62 : decode cS_copyNodes 62 = .ok (.aload_n 0, 1) := by decide +kernel
theorem dS_copyNodes_63 : decode cS_copyNodes 63 = .ok (.getfield 19, 3) := by decide +kernel
theorem dS_copyNodes_66 : decode cS_copyNodes 66 = .ok (.iload_n 2, 1) := by decide +kernel
theorem dS_copyNodes_67 : decode cS_copyNodes 67 = .ok (.bipush 8, 2) := by decide +kernel
theorem dS_copyNodes_69 : decode cS_copyNodes 69 = .ok (.imul, 1) := by decide +kernel
theorem dS_copyNodes_70 : decode cS_copyNodes 70 = .ok (.iload_n 3, 1) := by decide +kernel
theorem dS_copyNodes_71 : decode cS_copyNodes 71 = .ok (.bipush 8, 2) := by decide +kernel
theorem dS_copyNodes_73 : decode cS_copyNodes 73 = .ok (.imul, 1) := by decide +kernel
theorem dS_copyNodes_74 : decode cS_copyNodes 74 = .ok (.invokestatic 129, 3) := by decide +kernel
theorem dS_copyNodes_77 : decode cS_copyNodes 77 = .ok (.aload_n 0, 1) := by decide +kernel
theorem dS_copyNodes_78 : decode cS_copyNodes 78 = .ok (.getfield 22, 3) := by decide +kernel
theorem dS_copyNodes_81 : decode cS_copyNodes 81 = .ok (.iload_n 1, 1) := by decide +kernel
theorem dS_copyNodes_82 : decode cS_copyNodes 82 = .ok (.aload_n 0, 1) := by decide +kernel
theorem dS_copyNodes_83 : decode cS_copyNodes 83 = .ok (.getfield 22, 3) := by decide +kernel
theorem dS_copyNodes_86 : decode cS_copyNodes 86 = .ok (.iload_n 2, 1) := by decide +kernel
theorem dS_copyNodes_87 : decode cS_copyNodes 87 = .ok (.iload_n 3, 1) := by decide +kernel
theorem dS_copyNodes_88 : decode cS_copyNodes 88 = .ok (.invokestatic 129, 3) := by decide +kernel
theorem dS_copyNodes_91 : decode cS_copyNodes 91 = .ok (.aload_n 0, 1) := by decide +kernel
theorem dS_copyNodes_92 : decode cS_copyNodes 92 = .ok (.getfield 25, 3) := by decide +kernel
theorem dS_copyNodes_95 : decode cS_copyNodes 95 = .ok (.iload_n 1, 1) := by decide +kernel
theorem dS_copyNodes_96 : decode cS_copyNodes 96 = .ok (.aload_n 0, 1) := by decide +kernel
theorem dS_copyNodes_97 : decode cS_copyNodes 97 = .ok (.getfield 25, 3) := by decide +kernel
theorem dS_copyNodes_100 : decode cS_copyNodes 100 = .ok (.iload_n 2, 1) := by decide +kernel
theorem dS_copyNodes_101 : decode cS_copyNodes 101 = .ok (.iload_n 3, 1) := by decide +kernel
theorem dS_copyNodes_102 : decode cS_copyNodes 102 = .ok (.invokestatic 129, 3) := by decide +kernel
theorem dS_copyNodes_105 : decode cS_copyNodes 105 = .ok (.aload_n 0, 1) := by decide +kernel
theorem dS_copyNodes_106 : decode cS_copyNodes 106 = .ok (.getfield 28, 3) := by decide +kernel
theorem dS_copyNodes_109 : decode cS_copyNodes 109 = .ok (.iload_n 1, 1) := by decide +kernel
theorem dS_copyNodes_110 : decode cS_copyNodes 110 = .ok (.aload_n 0, 1) := by decide +kernel
theorem dS_copyNodes_111 : decode cS_copyNodes 111 = .ok (.getfield 28, 3) := by decide +kernel
theorem dS_copyNodes_114 : decode cS_copyNodes 114 = .ok (.iload_n 2, 1) := by decide +kernel
theorem dS_copyNodes_115 : decode cS_copyNodes 115 = .ok (.iload_n 3, 1) := by decide +kernel
theorem dS_copyNodes_116 : decode cS_copyNodes 116 = .ok (.invokestatic 129, 3) := by decide +kernel
theorem dS_copyNodes_119 : decode cS_copyNodes 119 = .ok (.aload_n 0, 1) := by decide +kernel
theorem dS_copyNodes_120 : decode cS_copyNodes 120 = .ok (.getfield 31, 3) := by decide +kernel
theorem dS_copyNodes_123 : decode cS_copyNodes 123 = .ok (.iload_n 1, 1) := by decide +kernel
theorem dS_copyNodes_124 : decode cS_copyNodes 124 = .ok (.aload_n 0, 1) := by decide +kernel
theorem dS_copyNodes_125 : decode cS_copyNodes 125 = .ok (.getfield 31, 3) := by decide +kernel
theorem dS_copyNodes_128 : decode cS_copyNodes 128 = .ok (.iload_n 2, 1) := by decide +kernel
theorem dS_copyNodes_129 : decode cS_copyNodes 129 = .ok (.iload_n 3, 1) := by decide +kernel
theorem dS_copyNodes_130 : decode cS_copyNodes 130 = .ok (.invokestatic 129, 3) := by decide +kernel
theorem dS_copyNodes_133 : decode cS_copyNodes 133 = .ok (.return_, 1) := by decide +kernel
