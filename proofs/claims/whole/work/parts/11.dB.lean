theorem dB_init_0 : decode cB_init 0 = .ok (.aload_n 0, 1) := by decide +kernel
theorem dB_init_1 : decode cB_init 1 = .ok (.invokespecial 3, 3) := by decide +kernel
theorem dB_init_4 : decode cB_init 4 = .ok (.aload_n 0, 1) := by decide +kernel
theorem dB_init_5 : decode cB_init 5 = .ok (.sipush 4096, 3) := by decide +kernel
theorem dB_init_8 : decode cB_init 8 = .ok (.newarray .byte, 2) := by decide +kernel
theorem dB_init_10 : decode cB_init 10 = .ok (.putfield 9, 3) := by decide +kernel
theorem dB_init_13 : decode cB_init 13 = .ok (.aload_n 0, 1) := by decide +kernel
theorem dB_init_14 : decode cB_init 14 = .ok (.iconst 0, 1) := by decide +kernel
theorem dB_init_15 : decode cB_init 15 = .ok (.putfield 15, 3) := by decide +kernel
theorem dB_init_18 : decode cB_init 18 = .ok (.return_, 1) := by decide +kernel
theorem dB_room_0 : decode cB_room 0 = .ok (.sipush 4096, 3) := by decide +kernel
theorem dB_room_3 : decode cB_room 3 = .ok (.aload_n 0, 1) := by decide +kernel
theorem dB_room_4 : decode cB_room 4 = .ok (.getfield 15, 3) := by decide +kernel
theorem dB_room_7 : decode cB_room 7 = .ok (.isub, 1) := by decide +kernel
theorem dB_room_8 : decode cB_room 8 = .ok (.ireturn, 1) := by decide +kernel
theorem dB_get_0 : decode cB_get 0 = .ok (.iload_n 1, 1) := by decide +kernel
theorem dB_get_1 : decode cB_get 1 = .ok (.ifCond .lt 11, 3) := by decide +kernel
theorem dB_get_4 : decode cB_get 4 = .ok (.iload_n 1, 1) := by decide +kernel
theorem dB_get_5 : decode cB_get 5 = .ok (.aload_n 0, 1) := by decide +kernel
theorem dB_get_6 : decode cB_get 6 = .ok (.getfield 15, 3) := by decide +kernel
theorem dB_get_9 : decode cB_get 9 = .ok (.if_icmp .lt 7, 3) := by decide +kernel
theorem dB_get_12 : decode cB_get 12 = .ok (.iconst (-1), 1) := by decide +kernel
theorem dB_get_13 : decode cB_get 13 = .ok (.goto 13, 3) := by decide +kernel
theorem dB_get_16 : decode cB_get 16 = .ok (.aload_n 0, 1) := by decide +kernel
theorem dB_get_17 : decode cB_get 17 = .ok (.getfield 9, 3) := by decide +kernel
theorem dB_get_20 : decode cB_get 20 = .ok (.iload_n 1, 1) := by decide +kernel
theorem dB_get_21 : decode cB_get 21 = .ok (.baload, 1) := by decide +kernel
theorem dB_get_22 : decode cB_get 22 = .ok (.sipush 255, 3) := by decide +kernel
theorem dB_get_25 : decode cB_get 25 = .ok (.iand, 1) := by decide +kernel
theorem dB_get_26 : decode cB_get 26 = .ok (.ireturn, 1) := by decide +kernel
theorem dB_append_0 : decode cB_append 0 = .ok (.aload_n 0, 1) := by decide +kernel
theorem dB_append_1 : decode cB_append 1 = .ok (.getfield 15, 3) := by decide +kernel
theorem dB_append_4 : decode cB_append 4 = .ok (.sipush 4096, 3) := by decide +kernel
theorem dB_append_7 : decode cB_append 7 = .ok (.if_icmp .ge 24, 3) := by decide +kernel
theorem dB_append_10 : decode cB_append 10 = .ok (.aload_n 0, 1) := by decide +kernel
theorem dB_append_11 : decode cB_append 11 = .ok (.getfield 9, 3) := by decide +kernel
theorem dB_append_14 : decode cB_append 14 = .ok (.aload_n 0, 1) := by decide +kernel
theorem dB_append_15 : decode cB_append 15 = .ok (.getfield 15, 3) := by decide +kernel
theorem dB_append_18 : decode cB_append 18 = .ok (.iload_n 1, 1) := by decide +kernel
theorem dB_append_19 : decode cB_append 19 = .ok (.i2b, 1) := by decide +kernel
theorem dB_append_20 : decode cB_append 20 = .ok (.bastore, 1) := by decide +kernel
theorem dB_append_21 : decode cB_append 21 = .ok (.aload_n 0, 1) := by decide +kernel
theorem dB_append_22 : decode cB_append 22 = .ok (.dup, 1) := by decide +kernel
theorem dB_append_23 : decode cB_append 23 = .ok (.getfield 15, 3) := by decide +kernel
theorem dB_append_26 : decode cB_append 26 = .ok (.iconst 1, 1) := by decide +kernel
theorem dB_append_27 : decode cB_append 27 = .ok (.iadd, 1) := by decide +kernel
theorem dB_append_28 : decode cB_append 28 = .ok (.putfield 15, 3) := by decide +kernel
theorem dB_append_31 : decode cB_append 31 = .ok (.return_, 1) := by decide +kernel
theorem dB_appendGroups_0 : decode cB_appendGroups 0 = .ok (.iconst 0, 1) := by decide +kernel
theorem dB_appendGroups_1 : decode cB_appendGroups 1 = .ok (.istore 4, 2) := by decide +kernel
theorem dB_appendGroups_3 : decode cB_appendGroups 3 = .ok (.iload 4, 2) := by decide +kernel
theorem dB_appendGroups_5 : decode cB_appendGroups 5 = .ok (.iload_n 3, 1) := by decide +kernel
theorem dB_appendGroups_6 : decode cB_appendGroups 6 = .ok (.if_icmp .ge 45, 3) := by decide +kernel
theorem dB_appendGroups_9 : decode cB_appendGroups 9 = .ok (.lload_n 1, 1) := by decide +kernel
theorem dB_appendGroups_10 : decode cB_appendGroups 10 = .ok (.bipush 7, 2) := by decide +kernel
theorem dB_appendGroups_12 : decode cB_appendGroups 12 = .ok (.iload 4, 2) := by decide +kernel
theorem dB_appendGroups_14 : decode cB_appendGroups 14 = .ok (.imul, 1) := by decide +kernel
theorem dB_appendGroups_15 : decode cB_appendGroups 15 = .ok (.lshr, 1) := by decide +kernel
theorem dB_appendGroups_16 : decode cB_appendGroups 16 = .ok (.l2i, 1) := by decide +kernel
theorem dB_appendGroups_17 : decode cB_appendGroups 17 = .ok (.bipush 127, 2) := by decide +kernel
theorem dB_appendGroups_19 : decode cB_appendGroups 19 = .ok (.iand, 1) := by decide +kernel
theorem dB_appendGroups_20 : decode cB_appendGroups 20 = .ok (.istore 5, 2) := by decide +kernel
theorem dB_appendGroups_22 : decode cB_appendGroups 22 = .ok (.aload_n 0, 1) := by decide +kernel
theorem dB_appendGroups_23 : decode cB_appendGroups 23 = .ok (.iload 4, 2) := by decide +kernel
theorem dB_appendGroups_25 : decode cB_appendGroups 25 = .ok (.iload_n 3, 1) := by decide +kernel
theorem dB_appendGroups_26 : decode cB_appendGroups 26 = .ok (.iconst 1, 1) := by decide +kernel
theorem dB_appendGroups_27 : decode cB_appendGroups 27 = .ok (.isub, 1) := by decide +kernel
theorem dB_appendGroups_28 : decode cB_appendGroups 28 = .ok (.if_icmp .ge 12, 3) := by decide +kernel
theorem dB_appendGroups_31 : decode cB_appendGroups 31 = .ok (.iload 5, 2) := by decide +kernel
theorem dB_appendGroups_33 : decode cB_appendGroups 33 = .ok (.sipush 128, 3) := by decide +kernel
theorem dB_appendGroups_36 : decode cB_appendGroups 36 = .ok (.ior, 1) := by decide +kernel
theorem dB_appendGroups_37 : decode cB_appendGroups 37 = .ok (.goto 5, 3) := by decide +kernel
theorem dB_appendGroups_40 : decode cB_appendGroups 40 = .ok (.iload 5, 2) := by decide +kernel
theorem dB_appendGroups_42 : decode cB_appendGroups 42 = .ok (.invokevirtual 19, 3) := by decide +kernel
theorem dB_appendGroups_45 : decode cB_appendGroups 45 = .ok (.iinc 4 1, 3) := by decide +kernel
theorem dB_appendGroups_48 : decode cB_appendGroups 48 = .ok (.goto (-45), 3) := by decide +kernel
theorem dB_appendGroups_51 : decode cB_appendGroups 51 = .ok (.return_, 1) := by decide +kernel
theorem dB_copyFrom_0 : decode cB_copyFrom 0 = .ok (.aload_n 1, 1) := by decide +kernel
theorem dB_copyFrom_1 : decode cB_copyFrom 1 = .ok (.getfield 9, 3) := by decide +kernel
theorem dB_copyFrom_4 : decode cB_copyFrom 4 = .ok (.iconst 0, 1) := by decide +kernel
theorem dB_copyFrom_5 : decode cB_copyFrom 5 = .ok (.aload_n 0, 1) := by decide +kernel
theorem dB_copyFrom_6 : decode cB_copyFrom 6 = .ok (.getfield 9, 3) := by decide +kernel
theorem dB_copyFrom_9 : decode cB_copyFrom 9 = .ok (.iconst 0, 1) := by decide +kernel
theorem dB_copyFrom_10 : decode cB_copyFrom 10 = .ok (.aload_n 1, 1) := by decide +kernel
theorem dB_copyFrom_11 : decode cB_copyFrom 11 = .ok (.getfield 15, 3) := by decide +kernel
theorem dB_copyFrom_14 : decode cB_copyFrom 14 = .ok (.invokestatic 23, 3) := by decide +kernel
theorem dB_copyFrom_17 : decode cB_copyFrom 17 = .ok (.aload_n 0, 1) := by decide +kernel
theorem dB_copyFrom_18 : decode cB_copyFrom 18 = .ok (.aload_n 1, 1) := by decide +kernel
theorem dB_copyFrom_19 : decode cB_copyFrom 19 = .ok (.getfield 15, 3) := by decide +kernel
theorem dB_copyFrom_22 : decode cB_copyFrom 22 = .ok (.putfield 15, 3) := by decide +kernel
theorem dB_copyFrom_25 : decode cB_copyFrom 25 = .ok (.return_, 1) := by decide +kernel
