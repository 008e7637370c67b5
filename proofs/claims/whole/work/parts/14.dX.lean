theorem dX_init_0 : decode cX_init 0 = .ok (.aload_n 0, 1) := by decide +kernel
theorem dX_init_1 : decode cX_init 1 = .ok (.invokespecial 1, 3) := by decide +kernel
theorem dX_init_4 : decode cX_init 4 = .ok (.aload_n 0, 1) := by decide +kernel
theorem dX_init_5 : decode cX_init 5 = .ok (.new 7, 3) := by decide +kernel
theorem dX_init_8 : decode cX_init 8 = .ok (.dup, 1) := by decide +kernel
theorem dX_init_9 : decode cX_init 9 = .ok (.invokespecial 9, 3) := by decide +kernel
theorem dX_init_12 : decode cX_init 12 = .ok (.putfield 10, 3) := by decide +kernel
theorem dX_init_15 : decode cX_init 15 = .ok (.aload_n 0, 1) := by decide +kernel
theorem dX_init_16 : decode cX_init 16 = .ok (.new 16, 3) := by decide +kernel
theorem dX_init_19 : decode cX_init 19 = .ok (.dup, 1) := by decide +kernel
theorem dX_init_20 : decode cX_init 20 = .ok (.invokespecial 18, 3) := by decide +kernel
theorem dX_init_23 : decode cX_init 23 = .ok (.putfield 19, 3) := by decide +kernel
theorem dX_init_26 : decode cX_init 26 = .ok (.aload_n 0, 1) := by decide +kernel
theorem dX_init_27 : decode cX_init 27 = .ok (.new 16, 3) := by decide +kernel
theorem dX_init_30 : decode cX_init 30 = .ok (.dup, 1) := by decide +kernel
theorem dX_init_31 : decode cX_init 31 = .ok (.invokespecial 18, 3) := by decide +kernel
theorem dX_init_34 : decode cX_init 34 = .ok (.putfield 23, 3) := by decide +kernel
theorem dX_init_37 : decode cX_init 37 = .ok (.aload_n 0, 1) := by decide +kernel
theorem dX_init_38 : decode cX_init 38 = .ok (.new 26, 3) := by decide +kernel
theorem dX_init_41 : decode cX_init 41 = .ok (.dup, 1) := by decide +kernel
theorem dX_init_42 : decode cX_init 42 = .ok (.aload_n 0, 1) := by decide +kernel
theorem dX_init_43 : decode cX_init 43 = .ok (.getfield 23, 3) := by decide +kernel
theorem dX_init_46 : decode cX_init 46 = .ok (.aload_n 0, 1) := by decide +kernel
theorem dX_init_47 : decode cX_init 47 = .ok (.getfield 10, 3) := by decide +kernel
theorem dX_init_50 : decode cX_init 50 = .ok (.invokespecial 28, 3) := by decide +kernel
theorem dX_init_53 : decode cX_init 53 = .ok (.putfield 31, 3) := by decide +kernel
theorem dX_init_56 : decode cX_init 56 = .ok (.return_, 1) := by decide +kernel
theorem dX_clear_0 : decode cX_clear 0 = .ok (.aload_n 0, 1) := by decide +kernel
theorem dX_clear_1 : decode cX_clear 1 = .ok (.getfield 10, 3) := by decide +kernel
theorem dX_clear_4 : decode cX_clear 4 = .ok (.iconst 0, 1) := by decide +kernel
theorem dX_clear_5 : decode cX_clear 5 = .ok (.putfield 35, 3) := by decide +kernel
theorem dX_clear_8 : decode cX_clear 8 = .ok (.aload_n 0, 1) := by decide +kernel
theorem dX_clear_9 : decode cX_clear 9 = .ok (.getfield 10, 3) := by decide +kernel
theorem dX_clear_12 : decode cX_clear 12 = .ok (.iconst 0, 1) := by decide +kernel
theorem dX_clear_13 : decode cX_clear 13 = .ok (.putfield 39, 3) := by decide +kernel
theorem dX_clear_16 : decode cX_clear 16 = .ok (.return_, 1) := by decide +kernel
theorem dX_node_0 : decode cX_node 0 = .ok (.iload_n 1, 1) := by decide +kernel
theorem dX_node_1 : decode cX_node 1 = .ok (.invokestatic 42, 3) := by decide +kernel
theorem dX_node_4 : decode cX_node 4 = .ok (.ifCond .eq 17, 3) := by decide +kernel
theorem dX_node_7 : decode cX_node 7 = .ok (.iload_n 1, 1) := by decide +kernel
theorem dX_node_8 : decode cX_node 8 = .ok (.bipush 8, 2) := by decide +kernel
theorem dX_node_10 : decode cX_node 10 = .ok (.if_icmp .eq 11, 3) := by decide +kernel
theorem dX_node_13 : decode cX_node 13 = .ok (.iload_n 1, 1) := by decide +kernel
theorem dX_node_14 : decode cX_node 14 = .ok (.lload_n 2, 1) := by decide +kernel
theorem dX_node_15 : decode cX_node 15 = .ok (.invokestatic 48, 3) := by decide +kernel
theorem dX_node_18 : decode cX_node 18 = .ok (.ifCond .ne 13, 3) := by decide +kernel
theorem dX_node_21 : decode cX_node 21 = .ok (.new 52, 3) := by decide +kernel
theorem dX_node_24 : decode cX_node 24 = .ok (.dup, 1) := by decide +kernel
theorem dX_node_25 : decode cX_node 25 = .ok (.ldc 54, 2) := by decide +kernel
theorem dX_node_27 : decode cX_node 27 = .ok (.invokespecial 56, 3) := by decide +kernel
theorem dX_node_30 : decode cX_node 30 = .ok (.athrow, 1) := by decide +kernel
theorem dX_node_31 : decode cX_node 31 = .ok (.aload_n 0, 1) := by decide +kernel
theorem dX_node_32 : decode cX_node 32 = .ok (.getfield 10, 3) := by decide +kernel
theorem dX_node_35 : decode cX_node 35 = .ok (.iload_n 1, 1) := by decide +kernel
theorem dX_node_36 : decode cX_node 36 = .ok (.lload_n 2, 1) := by decide +kernel
theorem dX_node_37 : decode cX_node 37 = .ok (.invokevirtual 59, 3) := by decide +kernel
theorem dX_node_40 : decode cX_node 40 = .ok (.ifCond .ne 13, 3) := by decide +kernel
theorem dX_node_43 : decode cX_node 43 = .ok (.new 62, 3) := by decide +kernel
theorem dX_node_46 : decode cX_node 46 = .ok (.dup, 1) := by decide +kernel
theorem dX_node_47 : decode cX_node 47 = .ok (.ldc 64, 2) := by decide +kernel
theorem dX_node_49 : decode cX_node 49 = .ok (.invokespecial 66, 3) := by decide +kernel
theorem dX_node_52 : decode cX_node 52 = .ok (.athrow, 1) := by decide +kernel
theorem dX_node_53 : decode cX_node 53 = .ok (.aload_n 0, 1) := by decide +kernel
theorem dX_node_54 : decode cX_node 54 = .ok (.getfield 10, 3) := by decide +kernel
theorem dX_node_57 : decode cX_node 57 = .ok (.getfield 35, 3) := by decide +kernel
theorem dX_node_60 : decode cX_node 60 = .ok (.ireturn, 1) := by decide +kernel
theorem dX_bytes_0 : decode cX_bytes 0 = .ok (.iload_n 3, 1) := by decide +kernel
theorem dX_bytes_1 : decode cX_bytes 1 = .ok (.ifCond .lt 9, 3) := by decide +kernel
theorem dX_bytes_4 : decode cX_bytes 4 = .ok (.iload_n 3, 1) := by decide +kernel
theorem dX_bytes_5 : decode cX_bytes 5 = .ok (.bipush 8, 2) := by decide +kernel
theorem dX_bytes_7 : decode cX_bytes 7 = .ok (.if_icmp .le 13, 3) := by decide +kernel
theorem dX_bytes_10 : decode cX_bytes 10 = .ok (.new 52, 3) := by decide +kernel
theorem dX_bytes_13 : decode cX_bytes 13 = .ok (.dup, 1) := by decide +kernel
theorem dX_bytes_14 : decode cX_bytes 14 = .ok (.ldc 67, 2) := by decide +kernel
theorem dX_bytes_16 : decode cX_bytes 16 = .ok (.invokespecial 56, 3) := by decide +kernel
theorem dX_bytes_19 : decode cX_bytes 19 = .ok (.athrow, 1) := by decide +kernel
theorem dX_bytes_20 : decode cX_bytes 20 = .ok (.aload_n 0, 1) := by decide +kernel
theorem dX_bytes_21 : decode cX_bytes 21 = .ok (.getfield 10, 3) := by decide +kernel
theorem dX_bytes_24 : decode cX_bytes 24 = .ok (.bipush 8, 2) := by decide +kernel
theorem dX_bytes_26 : decode cX_bytes 26 = .ok (.lconst 0, 1) := by decide +kernel
theorem dX_bytes_27 : decode cX_bytes 27 = .ok (.invokevirtual 59, 3) := by decide +kernel
theorem dX_bytes_30 : decode cX_bytes 30 = .ok (.ifCond .ne 13, 3) := by decide +kernel
theorem dX_bytes_33 : decode cX_bytes 33 = .ok (.new 62, 3) := by decide +kernel
theorem dX_bytes_36 : decode cX_bytes 36 = .ok (.dup, 1) := by decide +kernel
theorem dX_bytes_37 : decode cX_bytes 37 = .ok (.ldc 69, 2) := by decide +kernel
theorem dX_bytes_39 : decode cX_bytes 39 = .ok (.invokespecial 66, 3) := by decide +kernel
theorem dX_bytes_42 : decode cX_bytes 42 = .ok (.athrow, 1) := by decide +kernel
theorem dX_bytes_43 : decode cX_bytes 43 = .ok (.aload_n 0, 1) := by decide +kernel
theorem dX_bytes_44 : decode cX_bytes 44 = .ok (.getfield 10, 3) := by decide +kernel
theorem dX_bytes_47 : decode cX_bytes 47 = .ok (.lload_n 1, 1) := by decide +kernel
theorem dX_bytes_48 : decode cX_bytes 48 = .ok (.iload_n 3, 1) := by decide +kernel
theorem dX_bytes_49 : decode cX_bytes 49 = .ok (.invokevirtual 71, 3) := by decide +kernel
theorem dX_bytes_52 : decode cX_bytes 52 = .ok (.pop, 1) := by decide +kernel
theorem dX_bytes_53 : decode cX_bytes 53 = .ok (.aload_n 0, 1) := by decide +kernel
theorem dX_bytes_54 : decode cX_bytes 54 = .ok (.getfield 10, 3) := by decide +kernel
theorem dX_bytes_57 : decode cX_bytes 57 = .ok (.getfield 35, 3) := by decide +kernel
theorem dX_bytes_60 : decode cX_bytes 60 = .ok (.ireturn, 1) := by decide +kernel
theorem dX_more_0 : decode cX_more 0 = .ok (.iload_n 3, 1) := by decide +kernel
theorem dX_more_1 : decode cX_more 1 = .ok (.iconst 1, 1) := by decide +kernel
theorem dX_more_2 : decode cX_more 2 = .ok (.if_icmp .lt 25, 3) := by decide +kernel
theorem dX_more_5 : decode cX_more 5 = .ok (.iload_n 3, 1) := by decide +kernel
theorem dX_more_6 : decode cX_more 6 = .ok (.bipush 8, 2) := by decide +kernel
theorem dX_more_8 : decode cX_more 8 = .ok (.if_icmp .gt 19, 3) := by decide +kernel
theorem dX_more_11 : decode cX_more 11 = .ok (.aload_n 0, 1) := by decide +kernel
theorem dX_more_12 : decode cX_more 12 = .ok (.getfield 10, 3) := by decide +kernel
theorem dX_more_15 : decode cX_more 15 = .ok (.lload_n 1, 1) := by decide +kernel
theorem dX_more_16 : decode cX_more 16 = .ok (.iload_n 3, 1) := by decide +kernel
theorem dX_more_17 : decode cX_more 17 = .ok (.invokevirtual 71, 3) := by decide +kernel
theorem dX_more_20 : decode cX_more 20 = .ok (.ifCond .eq 7, 3) := by decide +kernel
theorem dX_more_23 : decode cX_more 23 = .ok (.iconst 1, 1) := by decide +kernel
theorem dX_more_24 : decode cX_more 24 = .ok (.goto 4, 3) := by decide +kernel
theorem dX_more_27 : decode cX_more 27 = .ok (.iconst 0, 1) := by decide +kernel
theorem dX_more_28 : decode cX_more 28 = .ok (.ireturn, 1) := by decide +kernel
theorem dX_drop_0 : decode cX_drop 0 = .ok (.aload_n 0, 1) := by decide +kernel
theorem dX_drop_1 : decode cX_drop 1 = .ok (.getfield 10, 3) := by decide +kernel
theorem dX_drop_4 : decode cX_drop 4 = .ok (.invokevirtual 75, 3) := by decide +kernel
theorem dX_drop_7 : decode cX_drop 7 = .ok (.ireturn, 1) := by decide +kernel
theorem dX_twice_0 : decode cX_twice 0 = .ok (.aload_n 0, 1) := by decide +kernel
theorem dX_twice_1 : decode cX_twice 1 = .ok (.getfield 10, 3) := by decide +kernel
theorem dX_twice_4 : decode cX_twice 4 = .ok (.invokevirtual 79, 3) := by decide +kernel
theorem dX_twice_7 : decode cX_twice 7 = .ok (.ireturn, 1) := by decide +kernel
theorem dX_split_0 : decode cX_split 0 = .ok (.aload_n 0, 1) := by decide +kernel
theorem dX_split_1 : decode cX_split 1 = .ok (.getfield 10, 3) := by decide +kernel
theorem dX_split_4 : decode cX_split 4 = .ok (.invokevirtual 82, 3) := by decide +kernel
theorem dX_split_7 : decode cX_split 7 = .ok (.ireturn, 1) := by decide +kernel
theorem dX_write_0 : decode cX_write 0 = .ok (.aload_n 0, 1) := by decide +kernel
theorem dX_write_1 : decode cX_write 1 = .ok (.getfield 10, 3) := by decide +kernel
theorem dX_write_4 : decode cX_write 4 = .ok (.invokevirtual 86, 3) := by decide +kernel
theorem dX_write_7 : decode cX_write 7 = .ok (.istore_n 1, 1) := by decide +kernel
theorem dX_write_8 : decode cX_write 8 = .ok (.iload_n 1, 1) := by decide +kernel
theorem dX_write_9 : decode cX_write 9 = .ok (.ifCond .lt 22, 3) := by decide +kernel
theorem dX_write_12 : decode cX_write 12 = .ok (.aload_n 0, 1) := by decide +kernel
theorem dX_write_13 : decode cX_write 13 = .ok (.getfield 10, 3) := by decide +kernel
theorem dX_write_16 : decode cX_write 16 = .ok (.getfield 89, 3) := by decide +kernel
theorem dX_write_19 : decode cX_write 19 = .ok (.iload_n 1, 1) := by decide +kernel
theorem dX_write_20 : decode cX_write 20 = .ok (.iaload, 1) := by decide +kernel
theorem dX_write_21 : decode cX_write 21 = .ok (.aload_n 0, 1) := by decide +kernel
theorem dX_write_22 : decode cX_write 22 = .ok (.getfield 19, 3) := by decide +kernel
theorem dX_write_25 : decode cX_write 25 = .ok (.invokevirtual 93, 3) := by decide +kernel
theorem dX_write_28 : decode cX_write 28 = .ok (.if_icmp .le 5, 3) := by decide +kernel
theorem dX_write_31 : decode cX_write 31 = .ok (.iconst (-1), 1) := by decide +kernel
theorem dX_write_32 : decode cX_write 32 = .ok (.ireturn, 1) := by decide +kernel
theorem dX_write_33 : decode cX_write 33 = .ok (.iload_n 1, 1) := by decide +kernel
theorem dX_write_34 : decode cX_write 34 = .ok (.aload_n 0, 1) := by decide +kernel
theorem dX_write_35 : decode cX_write 35 = .ok (.getfield 10, 3) := by decide +kernel
theorem dX_write_38 : decode cX_write 38 = .ok (.getfield 96, 3) := by decide +kernel
theorem dX_write_41 : decode cX_write 41 = .ok (.iload_n 1, 1) := by decide +kernel
theorem dX_write_42 : decode cX_write 42 = .ok (.iaload, 1) := by decide +kernel
theorem dX_write_43 : decode cX_write 43 = .ok (.iadd, 1) := by decide +kernel
theorem dX_write_44 : decode cX_write 44 = .ok (.istore_n 2, 1) := by decide +kernel
theorem dX_write_45 : decode cX_write 45 = .ok (.iload_n 1, 1) := by decide +kernel
theorem dX_write_46 : decode cX_write 46 = .ok (.istore_n 3, 1) := by decide +kernel
theorem dX_write_47 : decode cX_write 47 = .ok (.iload_n 3, 1) := by decide +kernel
theorem dX_write_48 : decode cX_write 48 = .ok (.iload_n 2, 1) := by decide +kernel
theorem dX_write_49 : decode cX_write 49 = .ok (.if_icmp .ge 28, 3) := by decide +kernel
theorem dX_write_52 : decode cX_write 52 = .ok (.iload_n 3, 1) := by decide +kernel
theorem dX_write_53 : decode cX_write 53 = .ok (.sipush 200, 3) := by decide +kernel
theorem dX_write_56 : decode cX_write 56 = .ok (.if_icmp .ge 21, 3) := by decide +kernel
theorem dX_write_59 : decode cX_write 59 = .ok (.aload_n 0, 1) := by decide +kernel
theorem dX_write_60 : decode cX_write 60 = .ok (.getfield 10, 3) := by decide +kernel
theorem dX_write_63 : decode cX_write 63 = .ok (.iload_n 3, 1) := by decide +kernel
theorem dX_write_64 : decode cX_write 64 = .ok (.aload_n 0, 1) := by decide +kernel
theorem dX_write_65 : decode cX_write 65 = .ok (.getfield 19, 3) := by decide +kernel
theorem dX_write_68 : decode cX_write 68 = .ok (.invokevirtual 99, 3) := by decide +kernel
theorem dX_write_71 : decode cX_write 71 = .ok (.iinc 3 1, 3) := by decide +kernel
theorem dX_write_74 : decode cX_write 74 = .ok (.goto (-27), 3) := by decide +kernel
theorem dX_write_77 : decode cX_write 77 = .ok (.aload_n 0, 1) := by decide +kernel
theorem dX_write_78 : decode cX_write 78 = .ok (.getfield 19, 3) := by decide +kernel
theorem dX_write_81 : decode cX_write 81 = .ok (.getfield 103, 3) := by decide +kernel
theorem dX_write_84 : decode cX_write 84 = .ok (.ireturn, 1) := by decide +kernel
theorem dX_wipe_0 : decode cX_wipe 0 = .ok (.aload_n 0, 1) := by decide +kernel
theorem dX_wipe_1 : decode cX_wipe 1 = .ok (.getfield 19, 3) := by decide +kernel
theorem dX_wipe_4 : decode cX_wipe 4 = .ok (.iconst 0, 1) := by decide +kernel
theorem dX_wipe_5 : decode cX_wipe 5 = .ok (.putfield 103, 3) := by decide +kernel
theorem dX_wipe_8 : decode cX_wipe 8 = .ok (.return_, 1) := by decide +kernel
theorem dX_give_0 : decode cX_give 0 = .ok (.iload_n 3, 1) := by decide +kernel
theorem dX_give_1 : decode cX_give 1 = .ok (.iconst 1, 1) := by decide +kernel
theorem dX_give_2 : decode cX_give 2 = .ok (.if_icmp .lt 20, 3) := by decide +kernel
theorem dX_give_5 : decode cX_give 5 = .ok (.iload_n 3, 1) := by decide +kernel
theorem dX_give_6 : decode cX_give 6 = .ok (.bipush 8, 2) := by decide +kernel
theorem dX_give_8 : decode cX_give 8 = .ok (.if_icmp .gt 14, 3) := by decide +kernel
theorem dX_give_11 : decode cX_give 11 = .ok (.iload_n 3, 1) := by decide +kernel
theorem dX_give_12 : decode cX_give 12 = .ok (.aload_n 0, 1) := by decide +kernel
theorem dX_give_13 : decode cX_give 13 = .ok (.getfield 23, 3) := by decide +kernel
theorem dX_give_16 : decode cX_give 16 = .ok (.invokevirtual 93, 3) := by decide +kernel
theorem dX_give_19 : decode cX_give 19 = .ok (.if_icmp .le 5, 3) := by decide +kernel
theorem dX_give_22 : decode cX_give 22 = .ok (.iconst 0, 1) := by decide +kernel
theorem dX_give_23 : decode cX_give 23 = .ok (.ireturn, 1) := by decide +kernel
theorem dX_give_24 : decode cX_give 24 = .ok (.iload_n 3, 1) := by decide +kernel
theorem dX_give_25 : decode cX_give 25 = .ok (.iconst 1, 1) := by decide +kernel
theorem dX_give_26 : decode cX_give 26 = .ok (.isub, 1) := by decide +kernel
theorem dX_give_27 : decode cX_give 27 = .ok (.istore 4, 2) := by decide +kernel
theorem dX_give_29 : decode cX_give 29 = .ok (.iload 4, 2) := by decide +kernel
theorem dX_give_31 : decode cX_give 31 = .ok (.ifCond .lt 22, 3) := by decide +kernel
theorem dX_give_34 : decode cX_give 34 = .ok (.aload_n 0, 1) := by decide +kernel
theorem dX_give_35 : decode cX_give 35 = .ok (.getfield 23, 3) := by decide +kernel
theorem dX_give_38 : decode cX_give 38 = .ok (.lload_n 1, 1) := by decide +kernel
theorem dX_give_39 : decode cX_give 39 = .ok (.iload 4, 2) := by decide +kernel
theorem dX_give_41 : decode cX_give 41 = .ok (.invokestatic 106, 3) := by decide +kernel
theorem dX_give_44 : decode cX_give 44 = .ok (.invokevirtual 110, 3) := by decide +kernel
theorem dX_give_47 : decode cX_give 47 = .ok (.iinc 4 (-1), 3) := by decide +kernel
theorem dX_give_50 : decode cX_give 50 = .ok (.goto (-21), 3) := by decide +kernel
theorem dX_give_53 : decode cX_give 53 = .ok (.iconst 1, 1) := by decide +kernel
theorem dX_give_54 : decode cX_give 54 = .ok (.ireturn, 1) := by decide +kernel
theorem dX_cut_0 : decode cX_cut 0 = .ok (.iload_n 1, 1) := by decide +kernel
theorem dX_cut_1 : decode cX_cut 1 = .ok (.ifCond .lt 14, 3) := by decide +kernel
theorem dX_cut_4 : decode cX_cut 4 = .ok (.iload_n 1, 1) := by decide +kernel
theorem dX_cut_5 : decode cX_cut 5 = .ok (.aload_n 0, 1) := by decide +kernel
theorem dX_cut_6 : decode cX_cut 6 = .ok (.getfield 23, 3) := by decide +kernel
theorem dX_cut_9 : decode cX_cut 9 = .ok (.getfield 103, 3) := by decide +kernel
theorem dX_cut_12 : decode cX_cut 12 = .ok (.if_icmp .le 5, 3) := by decide +kernel
theorem dX_cut_15 : decode cX_cut 15 = .ok (.iconst 0, 1) := by decide +kernel
theorem dX_cut_16 : decode cX_cut 16 = .ok (.ireturn, 1) := by decide +kernel
theorem dX_cut_17 : decode cX_cut 17 = .ok (.aload_n 0, 1) := by decide +kernel
theorem dX_cut_18 : decode cX_cut 18 = .ok (.getfield 23, 3) := by decide +kernel
theorem dX_cut_21 : decode cX_cut 21 = .ok (.iload_n 1, 1) := by decide +kernel
theorem dX_cut_22 : decode cX_cut 22 = .ok (.putfield 103, 3) := by decide +kernel
theorem dX_cut_25 : decode cX_cut 25 = .ok (.aload_n 0, 1) := by decide +kernel
theorem dX_cut_26 : decode cX_cut 26 = .ok (.getfield 31, 3) := by decide +kernel
theorem dX_cut_29 : decode cX_cut 29 = .ok (.iconst 0, 1) := by decide +kernel
theorem dX_cut_30 : decode cX_cut 30 = .ok (.putfield 114, 3) := by decide +kernel
theorem dX_cut_33 : decode cX_cut 33 = .ok (.iconst 1, 1) := by decide +kernel
theorem dX_cut_34 : decode cX_cut 34 = .ok (.ireturn, 1) := by decide +kernel
theorem dX_turn_0 : decode cX_turn 0 = .ok (.aload_n 0, 1) := by decide +kernel
theorem dX_turn_1 : decode cX_turn 1 = .ok (.getfield 23, 3) := by decide +kernel
theorem dX_turn_4 : decode cX_turn 4 = .ok (.aload_n 0, 1) := by decide +kernel
theorem dX_turn_5 : decode cX_turn 5 = .ok (.getfield 19, 3) := by decide +kernel
theorem dX_turn_8 : decode cX_turn 8 = .ok (.invokevirtual 117, 3) := by decide +kernel
theorem dX_turn_11 : decode cX_turn 11 = .ok (.aload_n 0, 1) := by decide +kernel
theorem dX_turn_12 : decode cX_turn 12 = .ok (.getfield 31, 3) := by decide +kernel
theorem dX_turn_15 : decode cX_turn 15 = .ok (.iconst 0, 1) := by decide +kernel
theorem dX_turn_16 : decode cX_turn 16 = .ok (.putfield 114, 3) := by decide +kernel
theorem dX_turn_19 : decode cX_turn 19 = .ok (.return_, 1) := by decide +kernel
theorem dX_read_0 : decode cX_read 0 = .ok (.aload_n 0, 1) := by decide +kernel
theorem dX_read_1 : decode cX_read 1 = .ok (.getfield 31, 3) := by decide +kernel
theorem dX_read_4 : decode cX_read 4 = .ok (.invokevirtual 121, 3) := by decide +kernel
theorem dX_read_7 : decode cX_read 7 = .ok (.ireturn, 1) := by decide +kernel
theorem dX_of_0 : decode cX_of 0 = .ok (.aload_n 0, 1) := by decide +kernel
theorem dX_of_1 : decode cX_of 1 = .ok (.getfield 10, 3) := by decide +kernel
theorem dX_of_4 : decode cX_of 4 = .ok (.iload_n 1, 1) := by decide +kernel
theorem dX_of_5 : decode cX_of 5 = .ok (.invokevirtual 124, 3) := by decide +kernel
theorem dX_of_8 : decode cX_of 8 = .ok (.istore_n 3, 1) := by decide +kernel
theorem dX_of_9 : decode cX_of 9 = .ok (.iload_n 3, 1) := by decide +kernel
theorem dX_of_10 : decode cX_of 10 = .ok (.ifCond .ge 5, 3) := by decide +kernel
theorem dX_of_13 : decode cX_of 13 = .ok (.iconst (-1), 1) := by decide +kernel
theorem dX_of_14 : decode cX_of 14 = .ok (.ireturn, 1) := by decide +kernel
theorem dX_of_15 : decode cX_of 15 = .ok (.iload_n 2, 1) := by decide +kernel
theorem dX_of_16 : decode cX_of 16 = .ok (.tableswitch 98 0 5 #[40, 50, 60, 70, 80, 89], 40) := by decide +kernel
theorem dX_of_56 : decode cX_of 56 = .ok (.aload_n 0, 1) := by decide +kernel
theorem dX_of_57 : decode cX_of 57 = .ok (.getfield 10, 3) := by decide +kernel
theorem dX_of_60 : decode cX_of 60 = .ok (.getfield 128, 3) := by decide +kernel
theorem dX_of_63 : decode cX_of 63 = .ok (.iload_n 3, 1) := by decide +kernel
theorem dX_of_64 : decode cX_of 64 = .ok (.iaload, 1) := by decide +kernel
theorem dX_of_65 : decode cX_of 65 = .ok (.ireturn, 1) := by decide +kernel
theorem dX_of_66 : decode cX_of 66 = .ok (.aload_n 0, 1) := by decide +kernel
theorem dX_of_67 : decode cX_of 67 = .ok (.getfield 10, 3) := by decide +kernel
theorem dX_of_70 : decode cX_of 70 = .ok (.getfield 96, 3) := by decide +kernel
theorem dX_of_73 : decode cX_of 73 = .ok (.iload_n 3, 1) := by decide +kernel
theorem dX_of_74 : decode cX_of 74 = .ok (.iaload, 1) := by decide +kernel
theorem dX_of_75 : decode cX_of 75 = .ok (.ireturn, 1) := by decide +kernel
theorem dX_of_76 : decode cX_of 76 = .ok (.aload_n 0, 1) := by decide +kernel
theorem dX_of_77 : decode cX_of 77 = .ok (.getfield 10, 3) := by decide +kernel
theorem dX_of_80 : decode cX_of 80 = .ok (.getfield 131, 3) := by decide +kernel
theorem dX_of_83 : decode cX_of 83 = .ok (.iload_n 3, 1) := by decide +kernel
theorem dX_of_84 : decode cX_of 84 = .ok (.iaload, 1) := by decide +kernel
theorem dX_of_85 : decode cX_of 85 = .ok (.ireturn, 1) := by decide +kernel
theorem dX_of_86 : decode cX_of 86 = .ok (.aload_n 0, 1) := by decide +kernel
theorem dX_of_87 : decode cX_of 87 = .ok (.getfield 10, 3) := by decide +kernel
theorem dX_of_90 : decode cX_of 90 = .ok (.getfield 134, 3) := by decide +kernel
theorem dX_of_93 : decode cX_of 93 = .ok (.iload_n 3, 1) := by decide +kernel
theorem dX_of_94 : decode cX_of 94 = .ok (.iaload, 1) := by decide +kernel
theorem dX_of_95 : decode cX_of 95 = .ok (.ireturn, 1) := by decide +kernel
theorem dX_of_96 : decode cX_of 96 = .ok (.aload_n 0, 1) := by decide +kernel
theorem dX_of_97 : decode cX_of 97 = .ok (.getfield 10, 3) := by decide +kernel
theorem dX_of_100 : decode cX_of 100 = .ok (.iload_n 1, 1) := by decide +kernel
theorem dX_of_101 : decode cX_of 101 = .ok (.invokevirtual 137, 3) := by decide +kernel
theorem dX_of_104 : decode cX_of 104 = .ok (.ireturn, 1) := by decide +kernel
theorem dX_of_105 : decode cX_of 105 = .ok (.aload_n 0, 1) := by decide +kernel
theorem dX_of_106 : decode cX_of 106 = .ok (.getfield 10, 3) := by decide +kernel
theorem dX_of_109 : decode cX_of 109 = .ok (.iload_n 3, 1) := by decide +kernel
theorem dX_of_110 : decode cX_of 110 = .ok (.invokevirtual 140, 3) := by decide +kernel
theorem dX_of_113 : decode cX_of 113 = .ok (.ireturn, 1) := by decide +kernel
theorem dX_of_114 : decode cX_of 114 = .ok (.iconst (-1), 1) := by decide +kernel
theorem dX_of_115 : decode cX_of 115 = .ok (.ireturn, 1) := by decide +kernel
theorem dX_number_0 : decode cX_number 0 = .ok (.aload_n 0, 1) := by decide +kernel
theorem dX_number_1 : decode cX_number 1 = .ok (.getfield 10, 3) := by decide +kernel
theorem dX_number_4 : decode cX_number 4 = .ok (.iload_n 1, 1) := by decide +kernel
theorem dX_number_5 : decode cX_number 5 = .ok (.invokevirtual 124, 3) := by decide +kernel
theorem dX_number_8 : decode cX_number 8 = .ok (.istore_n 2, 1) := by decide +kernel
theorem dX_number_9 : decode cX_number 9 = .ok (.iload_n 2, 1) := by decide +kernel
theorem dX_number_10 : decode cX_number 10 = .ok (.ifCond .lt 18, 3) := by decide +kernel
theorem dX_number_13 : decode cX_number 13 = .ok (.aload_n 0, 1) := by decide +kernel
theorem dX_number_14 : decode cX_number 14 = .ok (.getfield 10, 3) := by decide +kernel
theorem dX_number_17 : decode cX_number 17 = .ok (.getfield 128, 3) := by decide +kernel
theorem dX_number_20 : decode cX_number 20 = .ok (.iload_n 2, 1) := by decide +kernel
theorem dX_number_21 : decode cX_number 21 = .ok (.iaload, 1) := by decide +kernel
theorem dX_number_22 : decode cX_number 22 = .ok (.invokestatic 143, 3) := by decide +kernel
theorem dX_number_25 : decode cX_number 25 = .ok (.ifCond .ne 13, 3) := by decide +kernel
theorem dX_number_28 : decode cX_number 28 = .ok (.new 52, 3) := by decide +kernel
theorem dX_number_31 : decode cX_number 31 = .ok (.dup, 1) := by decide +kernel
theorem dX_number_32 : decode cX_number 32 = .ok (.ldc 146, 2) := by decide +kernel
theorem dX_number_34 : decode cX_number 34 = .ok (.invokespecial 56, 3) := by decide +kernel
theorem dX_number_37 : decode cX_number 37 = .ok (.athrow, 1) := by decide +kernel
theorem dX_number_38 : decode cX_number 38 = .ok (.aload_n 0, 1) := by decide +kernel
theorem dX_number_39 : decode cX_number 39 = .ok (.getfield 10, 3) := by decide +kernel
theorem dX_number_42 : decode cX_number 42 = .ok (.getfield 148, 3) := by decide +kernel
theorem dX_number_45 : decode cX_number 45 = .ok (.iload_n 2, 1) := by decide +kernel
theorem dX_number_46 : decode cX_number 46 = .ok (.laload, 1) := by decide +kernel
theorem dX_number_47 : decode cX_number 47 = .ok (.lreturn, 1) := by decide +kernel
theorem dX_byteAt_0 : decode cX_byteAt 0 = .ok (.aload_n 0, 1) := by decide +kernel
theorem dX_byteAt_1 : decode cX_byteAt 1 = .ok (.getfield 10, 3) := by decide +kernel
theorem dX_byteAt_4 : decode cX_byteAt 4 = .ok (.iload_n 1, 1) := by decide +kernel
theorem dX_byteAt_5 : decode cX_byteAt 5 = .ok (.invokevirtual 124, 3) := by decide +kernel
theorem dX_byteAt_8 : decode cX_byteAt 8 = .ok (.istore_n 3, 1) := by decide +kernel
theorem dX_byteAt_9 : decode cX_byteAt 9 = .ok (.iload_n 3, 1) := by decide +kernel
theorem dX_byteAt_10 : decode cX_byteAt 10 = .ok (.ifCond .lt 19, 3) := by decide +kernel
theorem dX_byteAt_13 : decode cX_byteAt 13 = .ok (.iload_n 2, 1) := by decide +kernel
theorem dX_byteAt_14 : decode cX_byteAt 14 = .ok (.ifCond .lt 15, 3) := by decide +kernel
theorem dX_byteAt_17 : decode cX_byteAt 17 = .ok (.iload_n 2, 1) := by decide +kernel
theorem dX_byteAt_18 : decode cX_byteAt 18 = .ok (.aload_n 0, 1) := by decide +kernel
theorem dX_byteAt_19 : decode cX_byteAt 19 = .ok (.getfield 10, 3) := by decide +kernel
theorem dX_byteAt_22 : decode cX_byteAt 22 = .ok (.iload_n 3, 1) := by decide +kernel
theorem dX_byteAt_23 : decode cX_byteAt 23 = .ok (.invokevirtual 140, 3) := by decide +kernel
theorem dX_byteAt_26 : decode cX_byteAt 26 = .ok (.if_icmp .lt 5, 3) := by decide +kernel
theorem dX_byteAt_29 : decode cX_byteAt 29 = .ok (.iconst (-1), 1) := by decide +kernel
theorem dX_byteAt_30 : decode cX_byteAt 30 = .ok (.ireturn, 1) := by decide +kernel
theorem dX_byteAt_31 : decode cX_byteAt 31 = .ok (.aload_n 0, 1) := by decide +kernel
theorem dX_byteAt_32 : decode cX_byteAt 32 = .ok (.getfield 10, 3) := by decide +kernel
theorem dX_byteAt_35 : decode cX_byteAt 35 = .ok (.iload_n 3, 1) := by decide +kernel
theorem dX_byteAt_36 : decode cX_byteAt 36 = .ok (.iload_n 2, 1) := by decide +kernel
theorem dX_byteAt_37 : decode cX_byteAt 37 = .ok (.invokevirtual 152, 3) := by decide +kernel
theorem dX_byteAt_40 : decode cX_byteAt 40 = .ok (.ireturn, 1) := by decide +kernel
theorem dX_same_0 : decode cX_same 0 = .ok (.aload_n 0, 1) := by decide +kernel
theorem dX_same_1 : decode cX_same 1 = .ok (.getfield 10, 3) := by decide +kernel
theorem dX_same_4 : decode cX_same 4 = .ok (.getfield 35, 3) := by decide +kernel
theorem dX_same_7 : decode cX_same 7 = .ok (.iconst 2, 1) := by decide +kernel
theorem dX_same_8 : decode cX_same 8 = .ok (.if_icmp .ge 13, 3) := by decide +kernel
theorem dX_same_11 : decode cX_same 11 = .ok (.new 62, 3) := by decide +kernel
theorem dX_same_14 : decode cX_same 14 = .ok (.dup, 1) := by decide +kernel
theorem dX_same_15 : decode cX_same 15 = .ok (.ldc 156, 2) := by decide +kernel
theorem dX_same_17 : decode cX_same 17 = .ok (.invokespecial 66, 3) := by decide +kernel
theorem dX_same_20 : decode cX_same 20 = .ok (.athrow, 1) := by decide +kernel
theorem dX_same_21 : decode cX_same 21 = .ok (.aload_n 0, 1) := by decide +kernel
theorem dX_same_22 : decode cX_same 22 = .ok (.getfield 10, 3) := by decide +kernel
theorem dX_same_25 : decode cX_same 25 = .ok (.invokevirtual 158, 3) := by decide +kernel
theorem dX_same_28 : decode cX_same 28 = .ok (.ireturn, 1) := by decide +kernel
theorem dX_output_0 : decode cX_output 0 = .ok (.aload_n 0, 1) := by decide +kernel
theorem dX_output_1 : decode cX_output 1 = .ok (.getfield 19, 3) := by decide +kernel
theorem dX_output_4 : decode cX_output 4 = .ok (.iload_n 1, 1) := by decide +kernel
theorem dX_output_5 : decode cX_output 5 = .ok (.invokevirtual 161, 3) := by decide +kernel
theorem dX_output_8 : decode cX_output 8 = .ok (.ireturn, 1) := by decide +kernel
theorem dX_look_0 : decode cX_look 0 = .ok (.iload_n 1, 1) := by decide +kernel
theorem dX_look_1 : decode cX_look 1 = .ok (.tableswitch 111 0 7 #[47, 55, 63, 71, 79, 87, 95, 103], 47) := by decide +kernel
theorem dX_look_48 : decode cX_look 48 = .ok (.aload_n 0, 1) := by decide +kernel
theorem dX_look_49 : decode cX_look 49 = .ok (.getfield 10, 3) := by decide +kernel
theorem dX_look_52 : decode cX_look 52 = .ok (.getfield 35, 3) := by decide +kernel
theorem dX_look_55 : decode cX_look 55 = .ok (.ireturn, 1) := by decide +kernel
theorem dX_look_56 : decode cX_look 56 = .ok (.aload_n 0, 1) := by decide +kernel
theorem dX_look_57 : decode cX_look 57 = .ok (.getfield 10, 3) := by decide +kernel
theorem dX_look_60 : decode cX_look 60 = .ok (.getfield 39, 3) := by decide +kernel
theorem dX_look_63 : decode cX_look 63 = .ok (.ireturn, 1) := by decide +kernel
theorem dX_look_64 : decode cX_look 64 = .ok (.aload_n 0, 1) := by decide +kernel
theorem dX_look_65 : decode cX_look 65 = .ok (.getfield 19, 3) := by decide +kernel
theorem dX_look_68 : decode cX_look 68 = .ok (.getfield 103, 3) := by decide +kernel
theorem dX_look_71 : decode cX_look 71 = .ok (.ireturn, 1) := by decide +kernel
theorem dX_look_72 : decode cX_look 72 = .ok (.aload_n 0, 1) := by decide +kernel
theorem dX_look_73 : decode cX_look 73 = .ok (.getfield 23, 3) := by decide +kernel
theorem dX_look_76 : decode cX_look 76 = .ok (.getfield 103, 3) := by decide +kernel
theorem dX_look_79 : decode cX_look 79 = .ok (.ireturn, 1) := by decide +kernel
theorem dX_look_80 : decode cX_look 80 = .ok (.aload_n 0, 1) := by decide +kernel
theorem dX_look_81 : decode cX_look 81 = .ok (.getfield 31, 3) := by decide +kernel
theorem dX_look_84 : decode cX_look 84 = .ok (.getfield 114, 3) := by decide +kernel
theorem dX_look_87 : decode cX_look 87 = .ok (.ireturn, 1) := by decide +kernel
theorem dX_look_88 : decode cX_look 88 = .ok (.aload_n 0, 1) := by decide +kernel
theorem dX_look_89 : decode cX_look 89 = .ok (.getfield 31, 3) := by decide +kernel
theorem dX_look_92 : decode cX_look 92 = .ok (.getfield 164, 3) := by decide +kernel
theorem dX_look_95 : decode cX_look 95 = .ok (.ireturn, 1) := by decide +kernel
theorem dX_look_96 : decode cX_look 96 = .ok (.aload_n 0, 1) := by decide +kernel
theorem dX_look_97 : decode cX_look 97 = .ok (.getfield 31, 3) := by decide +kernel
theorem dX_look_100 : decode cX_look 100 = .ok (.getfield 167, 3) := by decide +kernel
theorem dX_look_103 : decode cX_look 103 = .ok (.ireturn, 1) := by decide +kernel
theorem dX_look_104 : decode cX_look 104 = .ok (.aload_n 0, 1) := by decide +kernel
theorem dX_look_105 : decode cX_look 105 = .ok (.getfield 10, 3) := by decide +kernel
theorem dX_look_108 : decode cX_look 108 = .ok (.invokevirtual 170, 3) := by decide +kernel
theorem dX_look_111 : decode cX_look 111 = .ok (.ireturn, 1) := by decide +kernel
theorem dX_look_112 : decode cX_look 112 = .ok (.iconst (-1), 1) := by decide +kernel
theorem dX_look_113 : decode cX_look 113 = .ok (.ireturn, 1) := by decide +kernel
