abbrev tc_wM (a : Nat → Nat) (ca : Nat → ClassId) (th : Nat) (iu : Nat → Bool) (ki : Nat → Nat) (mu : Nat → Int64) (fs : Nat → Option Nat) (ss : Nat → Option Nat) (tx : Nat → Nat) (us : Nat) (te : Nat → Nat) (my : Nat) (mo : Nat → Nat) (mz : Nat) (mi : Nat → Nat) (iz : Nat) (ma : Nat) (mf : Nat) (mp : Option Nat) (od : Nat → Nat) (ar : Nat → Option Nat) (lw : Nat → Nat) (oc : Nat) (sk : Nat → Nat) (sa : Nat → Option Nat) (sl : Nat → Nat) (pp : Nat) (re : Nat → Nat) (rd : Nat) (co : Nat → Nat) (dq : Nat → Nat) (bo : Nat → Nat) (lc : Nat → Nat) : va_W := [(a 0, .inr (4, [.int (nI th), .ref (a 1), .ref (a 2), .ref (a 3), .ref (a 4), .ref (a 5), .ref (a 6), .int (nI us), .ref (a 7), .int (nI my), .ref (a 8), .int (nI mz), .ref (a 9), .int (nI iz), .int (nI ma), .int (nI mf), .int (xk_oI mp), .ref (a 10), .ref (a 11), .ref (a 12), .int (nI oc), .ref (a 13), .ref (a 14), .ref (a 15), .int (nI pp), .ref (a 16), .int (nI rd), .ref (a 17), .ref (a 18), .ref (a 19), .ref (a 20)])), (a 1, .inl (ca 1, 200, .inl (xk_zA iu))), (a 2, .inl (ca 2, 200, .inl (xk_nA ki))), (a 3, .inl (ca 3, 200, .inr (.inl mu))), (a 4, .inl (ca 4, 200, .inl (xk_oA fs))), (a 5, .inl (ca 5, 200, .inl (xk_oA ss))), (a 6, .inl (ca 6, 12800, .inl (xk_bA tx))), (a 7, .inl (ca 7, 200, .inl (xk_nA te))), (a 8, .inl (ca 8, 4096, .inl (xk_bA mo))), (a 9, .inl (ca 9, 4096, .inl (xk_bA mi))), (a 10, .inl (ca 10, 200, .inl (xk_nA od))), (a 11, .inl (ca 11, 200, .inl (xk_oA ar))), (a 12, .inl (ca 12, 200, .inl (xk_nA lw))), (a 13, .inl (ca 13, 400, .inl (xk_nA sk))), (a 14, .inl (ca 14, 400, .inl (xk_oA sa))), (a 15, .inl (ca 15, 400, .inl (xk_nA sl))), (a 16, .inl (ca 16, 200, .inl (xk_nA re))), (a 17, .inl (ca 17, 200, .inl (xk_nA co))), (a 18, .inl (ca 18, 200, .inl (xk_nA dq))), (a 19, .inl (ca 19, 200, .inl (xk_nA bo))), (a 20, .inl (ca 20, 200, .inl (xk_nA lc)))]
abbrev tc_tM (ca : Nat → ClassId) : List (ClassId × FieldType) := [(ca 1, .boolean), (ca 2, .int), (ca 3, .long), (ca 4, .int), (ca 5, .int), (ca 6, .byte), (ca 7, .int), (ca 8, .byte), (ca 9, .byte), (ca 10, .int), (ca 11, .int), (ca 12, .int), (ca 13, .int), (ca 14, .int), (ca 15, .int), (ca 16, .int), (ca 17, .int), (ca 18, .int), (ca 19, .int), (ca 20, .int)]
theorem dM_init_0 : decode cM_init 0 = .ok (.aload_n 0, 1) := by decide +kernel
theorem dM_init_1 : decode cM_init 1 = .ok (.invokespecial 1, 3) := by decide +kernel
theorem dM_init_4 : decode cM_init 4 = .ok (.aload_n 0, 1) := by decide +kernel
theorem dM_init_5 : decode cM_init 5 = .ok (.sipush 200, 3) := by decide +kernel
theorem dM_init_8 : decode cM_init 8 = .ok (.newarray .boolean, 2) := by decide +kernel
theorem dM_init_10 : decode cM_init 10 = .ok (.putfield 7, 3) := by decide +kernel
theorem dM_init_13 : decode cM_init 13 = .ok (.aload_n 0, 1) := by decide +kernel
theorem dM_init_14 : decode cM_init 14 = .ok (.sipush 200, 3) := by decide +kernel
theorem dM_init_17 : decode cM_init 17 = .ok (.newarray .int, 2) := by decide +kernel
theorem dM_init_19 : decode cM_init 19 = .ok (.putfield 13, 3) := by decide +kernel
theorem dM_init_22 : decode cM_init 22 = .ok (.aload_n 0, 1) := by decide +kernel
theorem dM_init_23 : decode cM_init 23 = .ok (.sipush 200, 3) := by decide +kernel
theorem dM_init_26 : decode cM_init 26 = .ok (.newarray .long, 2) := by decide +kernel
theorem dM_init_28 : decode cM_init 28 = .ok (.putfield 17, 3) := by decide +kernel
theorem dM_init_31 : decode cM_init 31 = .ok (.aload_n 0, 1) := by decide +kernel
theorem dM_init_32 : decode cM_init 32 = .ok (.sipush 200, 3) := by decide +kernel
theorem dM_init_35 : decode cM_init 35 = .ok (.newarray .int, 2) := by decide +kernel
theorem dM_init_37 : decode cM_init 37 = .ok (.putfield 21, 3) := by decide +kernel
theorem dM_init_40 : decode cM_init 40 = .ok (.aload_n 0, 1) := by decide +kernel
theorem dM_init_41 : decode cM_init 41 = .ok (.sipush 200, 3) := by decide +kernel
theorem dM_init_44 : decode cM_init 44 = .ok (.newarray .int, 2) := by decide +kernel
theorem dM_init_46 : decode cM_init 46 = .ok (.putfield 24, 3) := by decide +kernel
theorem dM_init_49 : decode cM_init 49 = .ok (.aload_n 0, 1) := by decide +kernel
theorem dM_init_50 : decode cM_init 50 = .ok (.sipush 12800, 3) := by decide +kernel
theorem dM_init_53 : decode cM_init 53 = .ok (.newarray .byte, 2) := by decide +kernel
theorem dM_init_55 : decode cM_init 55 = .ok (.putfield 27, 3) := by decide +kernel
theorem dM_init_58 : decode cM_init 58 = .ok (.aload_n 0, 1) := by decide +kernel
theorem dM_init_59 : decode cM_init 59 = .ok (.sipush 200, 3) := by decide +kernel
theorem dM_init_62 : decode cM_init 62 = .ok (.newarray .int, 2) := by decide +kernel
theorem dM_init_64 : decode cM_init 64 = .ok (.putfield 31, 3) := by decide +kernel
theorem dM_init_67 : decode cM_init 67 = .ok (.aload_n 0, 1) := by decide +kernel
theorem dM_init_68 : decode cM_init 68 = .ok (.sipush 4096, 3) := by decide +kernel
theorem dM_init_71 : decode cM_init 71 = .ok (.newarray .byte, 2) := by decide +kernel
theorem dM_init_73 : decode cM_init 73 = .ok (.putfield 34, 3) := by decide +kernel
theorem dM_init_76 : decode cM_init 76 = .ok (.aload_n 0, 1) := by decide +kernel
theorem dM_init_77 : decode cM_init 77 = .ok (.sipush 4096, 3) := by decide +kernel
theorem dM_init_80 : decode cM_init 80 = .ok (.newarray .byte, 2) := by decide +kernel
theorem dM_init_82 : decode cM_init 82 = .ok (.putfield 37, 3) := by decide +kernel
theorem dM_init_85 : decode cM_init 85 = .ok (.aload_n 0, 1) := by decide +kernel
theorem dM_init_86 : decode cM_init 86 = .ok (.iconst (-1), 1) := by decide +kernel
theorem dM_init_87 : decode cM_init 87 = .ok (.putfield 40, 3) := by decide +kernel
theorem dM_init_90 : decode cM_init 90 = .ok (.aload_n 0, 1) := by decide +kernel
theorem dM_init_91 : decode cM_init 91 = .ok (.sipush 200, 3) := by decide +kernel
theorem dM_init_94 : decode cM_init 94 = .ok (.newarray .int, 2) := by decide +kernel
theorem dM_init_96 : decode cM_init 96 = .ok (.putfield 44, 3) := by decide +kernel
theorem dM_init_99 : decode cM_init 99 = .ok (.aload_n 0, 1) := by decide +kernel
theorem dM_init_100 : decode cM_init 100 = .ok (.sipush 200, 3) := by decide +kernel
theorem dM_init_103 : decode cM_init 103 = .ok (.newarray .int, 2) := by decide +kernel
theorem dM_init_105 : decode cM_init 105 = .ok (.putfield 47, 3) := by decide +kernel
theorem dM_init_108 : decode cM_init 108 = .ok (.aload_n 0, 1) := by decide +kernel
theorem dM_init_109 : decode cM_init 109 = .ok (.sipush 200, 3) := by decide +kernel
theorem dM_init_112 : decode cM_init 112 = .ok (.newarray .int, 2) := by decide +kernel
theorem dM_init_114 : decode cM_init 114 = .ok (.putfield 50, 3) := by decide +kernel
theorem dM_init_117 : decode cM_init 117 = .ok (.aload_n 0, 1) := by decide +kernel
theorem dM_init_118 : decode cM_init 118 = .ok (.sipush 400, 3) := by decide +kernel
theorem dM_init_121 : decode cM_init 121 = .ok (.newarray .int, 2) := by decide +kernel
theorem dM_init_123 : decode cM_init 123 = .ok (.putfield 53, 3) := by decide +kernel
theorem dM_init_126 : decode cM_init 126 = .ok (.aload_n 0, 1) := by decide +kernel
theorem dM_init_127 : decode cM_init 127 = .ok (.sipush 400, 3) := by decide +kernel
theorem dM_init_130 : decode cM_init 130 = .ok (.newarray .int, 2) := by decide +kernel
theorem dM_init_132 : decode cM_init 132 = .ok (.putfield 56, 3) := by decide +kernel
theorem dM_init_135 : decode cM_init 135 = .ok (.aload_n 0, 1) := by decide +kernel
theorem dM_init_136 : decode cM_init 136 = .ok (.sipush 400, 3) := by decide +kernel
theorem dM_init_139 : decode cM_init 139 = .ok (.newarray .int, 2) := by decide +kernel
theorem dM_init_141 : decode cM_init 141 = .ok (.putfield 59, 3) := by decide +kernel
theorem dM_init_144 : decode cM_init 144 = .ok (.aload_n 0, 1) := by decide +kernel
theorem dM_init_145 : decode cM_init 145 = .ok (.sipush 200, 3) := by decide +kernel
theorem dM_init_148 : decode cM_init 148 = .ok (.newarray .int, 2) := by decide +kernel
theorem dM_init_150 : decode cM_init 150 = .ok (.putfield 62, 3) := by decide +kernel
theorem dM_init_153 : decode cM_init 153 = .ok (.aload_n 0, 1) := by decide +kernel
theorem dM_init_154 : decode cM_init 154 = .ok (.sipush 200, 3) := by decide +kernel
theorem dM_init_157 : decode cM_init 157 = .ok (.newarray .int, 2) := by decide +kernel
theorem dM_init_159 : decode cM_init 159 = .ok (.putfield 65, 3) := by decide +kernel
theorem dM_init_162 : decode cM_init 162 = .ok (.aload_n 0, 1) := by decide +kernel
theorem dM_init_163 : decode cM_init 163 = .ok (.sipush 200, 3) := by decide +kernel
theorem dM_init_166 : decode cM_init 166 = .ok (.newarray .int, 2) := by decide +kernel
theorem dM_init_168 : decode cM_init 168 = .ok (.putfield 68, 3) := by decide +kernel
theorem dM_init_171 : decode cM_init 171 = .ok (.aload_n 0, 1) := by decide +kernel
theorem dM_init_172 : decode cM_init 172 = .ok (.sipush 200, 3) := by decide +kernel
theorem dM_init_175 : decode cM_init 175 = .ok (.newarray .int, 2) := by decide +kernel
theorem dM_init_177 : decode cM_init 177 = .ok (.putfield 71, 3) := by decide +kernel
theorem dM_init_180 : decode cM_init 180 = .ok (.aload_n 0, 1) := by decide +kernel
theorem dM_init_181 : decode cM_init 181 = .ok (.sipush 200, 3) := by decide +kernel
theorem dM_init_184 : decode cM_init 184 = .ok (.newarray .int, 2) := by decide +kernel
theorem dM_init_186 : decode cM_init 186 = .ok (.putfield 74, 3) := by decide +kernel
theorem dM_init_189 : decode cM_init 189 = .ok (.return_, 1) := by decide +kernel
theorem dM_thrown_0 : decode cM_thrown 0 = .ok (.aload_n 0, 1) := by decide +kernel
theorem dM_thrown_1 : decode cM_thrown 1 = .ok (.getfield 77, 3) := by decide +kernel
theorem dM_thrown_4 : decode cM_thrown 4 = .ok (.ireturn, 1) := by decide +kernel
theorem dM_takes_0 : decode cM_takes 0 = .ok (.iload_n 0, 1) := by decide +kernel
theorem dM_takes_1 : decode cM_takes 1 = .ok (.iconst 2, 1) := by decide +kernel
theorem dM_takes_2 : decode cM_takes 2 = .ok (.if_icmp .ne 7, 3) := by decide +kernel
theorem dM_takes_5 : decode cM_takes 5 = .ok (.iconst 2, 1) := by decide +kernel
theorem dM_takes_6 : decode cM_takes 6 = .ok (.goto 23, 3) := by decide +kernel
theorem dM_takes_9 : decode cM_takes 9 = .ok (.iload_n 0, 1) := by decide +kernel
theorem dM_takes_10 : decode cM_takes 10 = .ok (.iconst 1, 1) := by decide +kernel
theorem dM_takes_11 : decode cM_takes 11 = .ok (.if_icmp .eq 13, 3) := by decide +kernel
theorem dM_takes_14 : decode cM_takes 14 = .ok (.iload_n 0, 1) := by decide +kernel
theorem dM_takes_15 : decode cM_takes 15 = .ok (.iconst 3, 1) := by decide +kernel
theorem dM_takes_16 : decode cM_takes 16 = .ok (.if_icmp .eq 8, 3) := by decide +kernel
theorem dM_takes_19 : decode cM_takes 19 = .ok (.iload_n 0, 1) := by decide +kernel
theorem dM_takes_20 : decode cM_takes 20 = .ok (.iconst 4, 1) := by decide +kernel
theorem dM_takes_21 : decode cM_takes 21 = .ok (.if_icmp .ne 7, 3) := by decide +kernel
theorem dM_takes_24 : decode cM_takes 24 = .ok (.iconst 1, 1) := by decide +kernel
theorem dM_takes_25 : decode cM_takes 25 = .ok (.goto 4, 3) := by decide +kernel
theorem dM_takes_28 : decode cM_takes 28 = .ok (.iconst 0, 1) := by decide +kernel
theorem dM_takes_29 : decode cM_takes 29 = .ok (.ireturn, 1) := by decide +kernel
theorem dM_free_0 : decode cM_free 0 = .ok (.iconst 0, 1) := by decide +kernel
theorem dM_free_1 : decode cM_free 1 = .ok (.istore_n 1, 1) := by decide +kernel
theorem dM_free_2 : decode cM_free 2 = .ok (.aload_n 0, 1) := by decide +kernel
theorem dM_free_3 : decode cM_free 3 = .ok (.getfield 7, 3) := by decide +kernel
theorem dM_free_6 : decode cM_free 6 = .ok (.iload_n 1, 1) := by decide +kernel
theorem dM_free_7 : decode cM_free 7 = .ok (.baload, 1) := by decide +kernel
theorem dM_free_8 : decode cM_free 8 = .ok (.ifCond .eq 9, 3) := by decide +kernel
theorem dM_free_11 : decode cM_free 11 = .ok (.iinc 1 1, 3) := by decide +kernel
theorem dM_free_14 : decode cM_free 14 = .ok (.goto (-12), 3) := by decide +kernel
theorem dM_free_17 : decode cM_free 17 = .ok (.iload_n 1, 1) := by decide +kernel
theorem dM_free_18 : decode cM_free 18 = .ok (.ireturn, 1) := by decide +kernel
theorem dM_make_0 : decode cM_make 0 = .ok (.aload_n 0, 1) := by decide +kernel
theorem dM_make_1 : decode cM_make 1 = .ok (.invokevirtual 80, 3) := by decide +kernel
theorem dM_make_4 : decode cM_make 4 = .ok (.istore 4, 2) := by decide +kernel
theorem dM_make_6 : decode cM_make 6 = .ok (.aload_n 0, 1) := by decide +kernel
theorem dM_make_7 : decode cM_make 7 = .ok (.getfield 7, 3) := by decide +kernel
theorem dM_make_10 : decode cM_make 10 = .ok (.iload 4, 2) := by decide +kernel
theorem dM_make_12 : decode cM_make 12 = .ok (.iconst 1, 1) := by decide +kernel
theorem dM_make_13 : decode cM_make 13 = .ok (.bastore, 1) := by decide +kernel
theorem dM_make_14 : decode cM_make 14 = .ok (.aload_n 0, 1) := by decide +kernel
theorem dM_make_15 : decode cM_make 15 = .ok (.dup, 1) := by decide +kernel
theorem dM_make_16 : decode cM_make 16 = .ok (.getfield 84, 3) := by decide +kernel
theorem dM_make_19 : decode cM_make 19 = .ok (.iconst 1, 1) := by decide +kernel
theorem dM_make_20 : decode cM_make 20 = .ok (.iadd, 1) := by decide +kernel
theorem dM_make_21 : decode cM_make 21 = .ok (.putfield 84, 3) := by decide +kernel
theorem dM_make_24 : decode cM_make 24 = .ok (.aload_n 0, 1) := by decide +kernel
theorem dM_make_25 : decode cM_make 25 = .ok (.getfield 13, 3) := by decide +kernel
theorem dM_make_28 : decode cM_make 28 = .ok (.iload 4, 2) := by decide +kernel
theorem dM_make_30 : decode cM_make 30 = .ok (.iload_n 1, 1) := by decide +kernel
theorem dM_make_31 : decode cM_make 31 = .ok (.iastore, 1) := by decide +kernel
theorem dM_make_32 : decode cM_make 32 = .ok (.aload_n 0, 1) := by decide +kernel
theorem dM_make_33 : decode cM_make 33 = .ok (.getfield 17, 3) := by decide +kernel
theorem dM_make_36 : decode cM_make 36 = .ok (.iload 4, 2) := by decide +kernel
theorem dM_make_38 : decode cM_make 38 = .ok (.lload_n 2, 1) := by decide +kernel
theorem dM_make_39 : decode cM_make 39 = .ok (.lastore, 1) := by decide +kernel
theorem dM_make_40 : decode cM_make 40 = .ok (.aload_n 0, 1) := by decide +kernel
theorem dM_make_41 : decode cM_make 41 = .ok (.getfield 21, 3) := by decide +kernel
theorem dM_make_44 : decode cM_make 44 = .ok (.iload 4, 2) := by decide +kernel
theorem dM_make_46 : decode cM_make 46 = .ok (.iconst (-1), 1) := by decide +kernel
theorem dM_make_47 : decode cM_make 47 = .ok (.iastore, 1) := by decide +kernel
theorem dM_make_48 : decode cM_make 48 = .ok (.aload_n 0, 1) := by decide +kernel
theorem dM_make_49 : decode cM_make 49 = .ok (.getfield 24, 3) := by decide +kernel
theorem dM_make_52 : decode cM_make 52 = .ok (.iload 4, 2) := by decide +kernel
theorem dM_make_54 : decode cM_make 54 = .ok (.iconst (-1), 1) := by decide +kernel
theorem dM_make_55 : decode cM_make 55 = .ok (.iastore, 1) := by decide +kernel
theorem dM_make_56 : decode cM_make 56 = .ok (.iload 4, 2) := by decide +kernel
theorem dM_make_58 : decode cM_make 58 = .ok (.ireturn, 1) := by decide +kernel
theorem dM_release_0 : decode cM_release 0 = .ok (.aload_n 0, 1) := by decide +kernel
theorem dM_release_1 : decode cM_release 1 = .ok (.getfield 7, 3) := by decide +kernel
theorem dM_release_4 : decode cM_release 4 = .ok (.iload_n 1, 1) := by decide +kernel
theorem dM_release_5 : decode cM_release 5 = .ok (.iconst 0, 1) := by decide +kernel
theorem dM_release_6 : decode cM_release 6 = .ok (.bastore, 1) := by decide +kernel
theorem dM_release_7 : decode cM_release 7 = .ok (.aload_n 0, 1) := by decide +kernel
theorem dM_release_8 : decode cM_release 8 = .ok (.dup, 1) := by decide +kernel
theorem dM_release_9 : decode cM_release 9 = .ok (.getfield 84, 3) := by decide +kernel
theorem dM_release_12 : decode cM_release 12 = .ok (.iconst 1, 1) := by decide +kernel
theorem dM_release_13 : decode cM_release 13 = .ok (.isub, 1) := by decide +kernel
theorem dM_release_14 : decode cM_release 14 = .ok (.putfield 84, 3) := by decide +kernel
theorem dM_release_17 : decode cM_release 17 = .ok (.return_, 1) := by decide +kernel
theorem dM_go_0 : decode cM_go 0 = .ok (.aload_n 0, 1) := by decide +kernel
theorem dM_go_1 : decode cM_go 1 = .ok (.iconst 0, 1) := by decide +kernel
theorem dM_go_2 : decode cM_go 2 = .ok (.putfield 87, 3) := by decide +kernel
theorem dM_go_5 : decode cM_go 5 = .ok (.iconst 1, 1) := by decide +kernel
theorem dM_go_6 : decode cM_go 6 = .ok (.istore_n 2, 1) := by decide +kernel
theorem dM_go_7 : decode cM_go 7 = .ok (.aload_n 0, 1) := by decide +kernel
theorem dM_go_8 : decode cM_go 8 = .ok (.getfield 53, 3) := by decide +kernel
theorem dM_go_11 : decode cM_go 11 = .ok (.iconst 0, 1) := by decide +kernel
theorem dM_go_12 : decode cM_go 12 = .ok (.iload_n 1, 1) := by decide +kernel
theorem dM_go_13 : decode cM_go 13 = .ok (.iastore, 1) := by decide +kernel
theorem dM_go_14 : decode cM_go 14 = .ok (.aload_n 0, 1) := by decide +kernel
theorem dM_go_15 : decode cM_go 15 = .ok (.getfield 56, 3) := by decide +kernel
theorem dM_go_18 : decode cM_go 18 = .ok (.iconst 0, 1) := by decide +kernel
theorem dM_go_19 : decode cM_go 19 = .ok (.iconst (-1), 1) := by decide +kernel
theorem dM_go_20 : decode cM_go 20 = .ok (.iastore, 1) := by decide +kernel
theorem dM_go_21 : decode cM_go 21 = .ok (.aload_n 0, 1) := by decide +kernel
theorem dM_go_22 : decode cM_go 22 = .ok (.getfield 59, 3) := by decide +kernel
theorem dM_go_25 : decode cM_go 25 = .ok (.iconst 0, 1) := by decide +kernel
theorem dM_go_26 : decode cM_go 26 = .ok (.iconst 1, 1) := by decide +kernel
theorem dM_go_27 : decode cM_go 27 = .ok (.iastore, 1) := by decide +kernel
theorem dM_go_28 : decode cM_go 28 = .ok (.iload_n 2, 1) := by decide +kernel
theorem dM_go_29 : decode cM_go 29 = .ok (.ifCond .le 146, 3) := by decide +kernel
theorem dM_go_32 : decode cM_go 32 = .ok (.iinc 2 (-1), 3) := by decide +kernel
theorem dM_go_35 : decode cM_go 35 = .ok (.aload_n 0, 1) := by decide +kernel
theorem dM_go_36 : decode cM_go 36 = .ok (.getfield 53, 3) := by decide +kernel
theorem dM_go_39 : decode cM_go 39 = .ok (.iload_n 2, 1) := by decide +kernel
theorem dM_go_40 : decode cM_go 40 = .ok (.iaload, 1) := by decide +kernel
theorem dM_go_41 : decode cM_go 41 = .ok (.istore_n 3, 1) := by decide +kernel
theorem dM_go_42 : decode cM_go 42 = .ok (.aload_n 0, 1) := by decide +kernel
theorem dM_go_43 : decode cM_go 43 = .ok (.getfield 87, 3) := by decide +kernel
theorem dM_go_46 : decode cM_go 46 = .ok (.istore 4, 2) := by decide +kernel
theorem dM_go_48 : decode cM_go 48 = .ok (.aload_n 0, 1) := by decide +kernel
theorem dM_go_49 : decode cM_go 49 = .ok (.getfield 44, 3) := by decide +kernel
theorem dM_go_52 : decode cM_go 52 = .ok (.iload 4, 2) := by decide +kernel
theorem dM_go_54 : decode cM_go 54 = .ok (.iload_n 3, 1) := by decide +kernel
theorem dM_go_55 : decode cM_go 55 = .ok (.iastore, 1) := by decide +kernel
theorem dM_go_56 : decode cM_go 56 = .ok (.aload_n 0, 1) := by decide +kernel
theorem dM_go_57 : decode cM_go 57 = .ok (.getfield 47, 3) := by decide +kernel
theorem dM_go_60 : decode cM_go 60 = .ok (.iload 4, 2) := by decide +kernel
theorem dM_go_62 : decode cM_go 62 = .ok (.aload_n 0, 1) := by decide +kernel
theorem dM_go_63 : decode cM_go 63 = .ok (.getfield 56, 3) := by decide +kernel
theorem dM_go_66 : decode cM_go 66 = .ok (.iload_n 2, 1) := by decide +kernel
theorem dM_go_67 : decode cM_go 67 = .ok (.iaload, 1) := by decide +kernel
theorem dM_go_68 : decode cM_go 68 = .ok (.iastore, 1) := by decide +kernel
theorem dM_go_69 : decode cM_go 69 = .ok (.aload_n 0, 1) := by decide +kernel
theorem dM_go_70 : decode cM_go 70 = .ok (.getfield 50, 3) := by decide +kernel
theorem dM_go_73 : decode cM_go 73 = .ok (.iload 4, 2) := by decide +kernel
theorem dM_go_75 : decode cM_go 75 = .ok (.aload_n 0, 1) := by decide +kernel
theorem dM_go_76 : decode cM_go 76 = .ok (.getfield 59, 3) := by decide +kernel
theorem dM_go_79 : decode cM_go 79 = .ok (.iload_n 2, 1) := by decide +kernel
theorem dM_go_80 : decode cM_go 80 = .ok (.iaload, 1) := by decide +kernel
theorem dM_go_81 : decode cM_go 81 = .ok (.iastore, 1) := by decide +kernel
theorem dM_go_82 : decode cM_go 82 = .ok (.aload_n 0, 1) := by decide +kernel
theorem dM_go_83 : decode cM_go 83 = .ok (.dup, 1) := by decide +kernel
theorem dM_go_84 : decode cM_go 84 = .ok (.getfield 87, 3) := by decide +kernel
theorem dM_go_87 : decode cM_go 87 = .ok (.iconst 1, 1) := by decide +kernel
theorem dM_go_88 : decode cM_go 88 = .ok (.iadd, 1) := by decide +kernel
theorem dM_go_89 : decode cM_go 89 = .ok (.putfield 87, 3) := by decide +kernel
theorem dM_go_92 : decode cM_go 92 = .ok (.aload_n 0, 1) := by decide +kernel
theorem dM_go_93 : decode cM_go 93 = .ok (.getfield 50, 3) := by decide +kernel
theorem dM_go_96 : decode cM_go 96 = .ok (.iload 4, 2) := by decide +kernel
theorem dM_go_98 : decode cM_go 98 = .ok (.iaload, 1) := by decide +kernel
theorem dM_go_99 : decode cM_go 99 = .ok (.iconst 1, 1) := by decide +kernel
theorem dM_go_100 : decode cM_go 100 = .ok (.iadd, 1) := by decide +kernel
theorem dM_go_101 : decode cM_go 101 = .ok (.istore 5, 2) := by decide +kernel
theorem dM_go_103 : decode cM_go 103 = .ok (.iconst 1, 1) := by decide +kernel
theorem dM_go_104 : decode cM_go 104 = .ok (.istore 6, 2) := by decide +kernel
theorem dM_go_106 : decode cM_go 106 = .ok (.iload 6, 2) := by decide +kernel
theorem dM_go_108 : decode cM_go 108 = .ok (.ifCond .lt 64, 3) := by decide +kernel
theorem dM_go_111 : decode cM_go 111 = .ok (.iload 6, 2) := by decide +kernel
theorem dM_go_113 : decode cM_go 113 = .ok (.iconst 1, 1) := by decide +kernel
theorem dM_go_114 : decode cM_go 114 = .ok (.if_icmp .ne 12, 3) := by decide +kernel
theorem dM_go_117 : decode cM_go 117 = .ok (.aload_n 0, 1) := by decide +kernel
theorem dM_go_118 : decode cM_go 118 = .ok (.getfield 24, 3) := by decide +kernel
theorem dM_go_121 : decode cM_go 121 = .ok (.iload_n 3, 1) := by decide +kernel
theorem dM_go_122 : decode cM_go 122 = .ok (.iaload, 1) := by decide +kernel
theorem dM_go_123 : decode cM_go 123 = .ok (.goto 9, 3) := by decide +kernel
theorem dM_go_126 : decode cM_go 126 = .ok (.aload_n 0, 1) := by decide +kernel
theorem dM_go_127 : decode cM_go 127 = .ok (.getfield 21, 3) := by decide +kernel
theorem dM_go_130 : decode cM_go 130 = .ok (.iload_n 3, 1) := by decide +kernel
theorem dM_go_131 : decode cM_go 131 = .ok (.iaload, 1) := by decide +kernel
theorem dM_go_132 : decode cM_go 132 = .ok (.istore 7, 2) := by decide +kernel
theorem dM_go_134 : decode cM_go 134 = .ok (.iload 7, 2) := by decide +kernel
theorem dM_go_136 : decode cM_go 136 = .ok (.ifCond .lt 30, 3) := by decide +kernel
theorem dM_go_139 : decode cM_go 139 = .ok (.aload_n 0, 1) := by decide +kernel
theorem dM_go_140 : decode cM_go 140 = .ok (.getfield 53, 3) := by decide +kernel
theorem dM_go_143 : decode cM_go 143 = .ok (.iload_n 2, 1) := by decide +kernel
theorem dM_go_144 : decode cM_go 144 = .ok (.iload 7, 2) := by decide +kernel
theorem dM_go_146 : decode cM_go 146 = .ok (.iastore, 1) := by decide +kernel
theorem dM_go_147 : decode cM_go 147 = .ok (.aload_n 0, 1) := by decide +kernel
theorem dM_go_148 : decode cM_go 148 = .ok (.getfield 56, 3) := by decide +kernel
theorem dM_go_151 : decode cM_go 151 = .ok (.iload_n 2, 1) := by decide +kernel
theorem dM_go_152 : decode cM_go 152 = .ok (.iload 4, 2) := by decide +kernel
theorem dM_go_154 : decode cM_go 154 = .ok (.iastore, 1) := by decide +kernel
theorem dM_go_155 : decode cM_go 155 = .ok (.aload_n 0, 1) := by decide +kernel
theorem dM_go_156 : decode cM_go 156 = .ok (.getfield 59, 3) := by decide +kernel
theorem dM_go_159 : decode cM_go 159 = .ok (.iload_n 2, 1) := by decide +kernel
theorem dM_go_160 : decode cM_go 160 = .ok (.iload 5, 2) := by decide +kernel
theorem dM_go_162 : decode cM_go 162 = .ok (.iastore, 1) := by decide +kernel
theorem dM_go_163 : decode cM_go 163 = .ok (.iinc 2 1, 3) := by decide +kernel
theorem dM_go_166 : decode cM_go 166 = .ok (.iinc 6 (-1), 3) := by decide +kernel
theorem dM_go_169 : decode cM_go 169 = .ok (.goto (-63), 3) := by decide +kernel
theorem dM_go_172 : decode cM_go 172 = .ok (.goto (-144), 3) := by decide +kernel
theorem dM_go_175 : decode cM_go 175 = .ok (.return_, 1) := by decide +kernel
theorem dM_depthOf_0 : decode cM_depthOf 0 = .ok (.aload_n 0, 1) := by decide +kernel
theorem dM_depthOf_1 : decode cM_depthOf 1 = .ok (.iload_n 1, 1) := by decide +kernel
theorem dM_depthOf_2 : decode cM_depthOf 2 = .ok (.invokevirtual 90, 3) := by decide +kernel
theorem dM_depthOf_5 : decode cM_depthOf 5 = .ok (.iconst 0, 1) := by decide +kernel
theorem dM_depthOf_6 : decode cM_depthOf 6 = .ok (.istore_n 2, 1) := by decide +kernel
theorem dM_depthOf_7 : decode cM_depthOf 7 = .ok (.iconst 0, 1) := by decide +kernel
theorem dM_depthOf_8 : decode cM_depthOf 8 = .ok (.istore_n 3, 1) := by decide +kernel
theorem dM_depthOf_9 : decode cM_depthOf 9 = .ok (.iload_n 3, 1) := by decide +kernel
theorem dM_depthOf_10 : decode cM_depthOf 10 = .ok (.aload_n 0, 1) := by decide +kernel
theorem dM_depthOf_11 : decode cM_depthOf 11 = .ok (.getfield 87, 3) := by decide +kernel
theorem dM_depthOf_14 : decode cM_depthOf 14 = .ok (.if_icmp .ge 30, 3) := by decide +kernel
theorem dM_depthOf_17 : decode cM_depthOf 17 = .ok (.aload_n 0, 1) := by decide +kernel
theorem dM_depthOf_18 : decode cM_depthOf 18 = .ok (.getfield 50, 3) := by decide +kernel
theorem dM_depthOf_21 : decode cM_depthOf 21 = .ok (.iload_n 3, 1) := by decide +kernel
theorem dM_depthOf_22 : decode cM_depthOf 22 = .ok (.iaload, 1) := by decide +kernel
theorem dM_depthOf_23 : decode cM_depthOf 23 = .ok (.iload_n 2, 1) := by decide +kernel
theorem dM_depthOf_24 : decode cM_depthOf 24 = .ok (.if_icmp .le 12, 3) := by decide +kernel
theorem dM_depthOf_27 : decode cM_depthOf 27 = .ok (.aload_n 0, 1) := by decide +kernel
theorem dM_depthOf_28 : decode cM_depthOf 28 = .ok (.getfield 50, 3) := by decide +kernel
theorem dM_depthOf_31 : decode cM_depthOf 31 = .ok (.iload_n 3, 1) := by decide +kernel
theorem dM_depthOf_32 : decode cM_depthOf 32 = .ok (.iaload, 1) := by decide +kernel
theorem dM_depthOf_33 : decode cM_depthOf 33 = .ok (.goto 4, 3) := by decide +kernel
theorem dM_depthOf_36 : decode cM_depthOf 36 = .ok (.iload_n 2, 1) := by decide +kernel
theorem dM_depthOf_37 : decode cM_depthOf 37 = .ok (.istore_n 2, 1) := by decide +kernel
theorem dM_depthOf_38 : decode cM_depthOf 38 = .ok (.iinc 3 1, 3) := by decide +kernel
theorem dM_depthOf_41 : decode cM_depthOf 41 = .ok (.goto (-32), 3) := by decide +kernel
theorem dM_depthOf_44 : decode cM_depthOf 44 = .ok (.iload_n 2, 1) := by decide +kernel
theorem dM_depthOf_45 : decode cM_depthOf 45 = .ok (.ireturn, 1) := by decide +kernel
theorem dM_lambdas_0 : decode cM_lambdas 0 = .ok (.iconst 0, 1) := by decide +kernel
theorem dM_lambdas_1 : decode cM_lambdas 1 = .ok (.istore_n 3, 1) := by decide +kernel
theorem dM_lambdas_2 : decode cM_lambdas 2 = .ok (.aload_n 0, 1) := by decide +kernel
theorem dM_lambdas_3 : decode cM_lambdas 3 = .ok (.getfield 47, 3) := by decide +kernel
theorem dM_lambdas_6 : decode cM_lambdas 6 = .ok (.iload_n 1, 1) := by decide +kernel
theorem dM_lambdas_7 : decode cM_lambdas 7 = .ok (.iaload, 1) := by decide +kernel
theorem dM_lambdas_8 : decode cM_lambdas 8 = .ok (.istore 4, 2) := by decide +kernel
theorem dM_lambdas_10 : decode cM_lambdas 10 = .ok (.iload 4, 2) := by decide +kernel
theorem dM_lambdas_12 : decode cM_lambdas 12 = .ok (.iload_n 2, 1) := by decide +kernel
theorem dM_lambdas_13 : decode cM_lambdas 13 = .ok (.if_icmp .lt 39, 3) := by decide +kernel
theorem dM_lambdas_16 : decode cM_lambdas 16 = .ok (.iload_n 3, 1) := by decide +kernel
theorem dM_lambdas_17 : decode cM_lambdas 17 = .ok (.aload_n 0, 1) := by decide +kernel
theorem dM_lambdas_18 : decode cM_lambdas 18 = .ok (.getfield 13, 3) := by decide +kernel
theorem dM_lambdas_21 : decode cM_lambdas 21 = .ok (.aload_n 0, 1) := by decide +kernel
theorem dM_lambdas_22 : decode cM_lambdas 22 = .ok (.getfield 44, 3) := by decide +kernel
theorem dM_lambdas_25 : decode cM_lambdas 25 = .ok (.iload 4, 2) := by decide +kernel
theorem dM_lambdas_27 : decode cM_lambdas 27 = .ok (.iaload, 1) := by decide +kernel
theorem dM_lambdas_28 : decode cM_lambdas 28 = .ok (.iaload, 1) := by decide +kernel
theorem dM_lambdas_29 : decode cM_lambdas 29 = .ok (.iconst 1, 1) := by decide +kernel
theorem dM_lambdas_30 : decode cM_lambdas 30 = .ok (.if_icmp .ne 7, 3) := by decide +kernel
theorem dM_lambdas_33 : decode cM_lambdas 33 = .ok (.iconst 1, 1) := by decide +kernel
theorem dM_lambdas_34 : decode cM_lambdas 34 = .ok (.goto 4, 3) := by decide +kernel
theorem dM_lambdas_37 : decode cM_lambdas 37 = .ok (.iconst 0, 1) := by decide +kernel
theorem dM_lambdas_38 : decode cM_lambdas 38 = .ok (.iadd, 1) := by decide +kernel
theorem dM_lambdas_39 : decode cM_lambdas 39 = .ok (.istore_n 3, 1) := by decide +kernel
theorem dM_lambdas_40 : decode cM_lambdas 40 = .ok (.aload_n 0, 1) := by decide +kernel
theorem dM_lambdas_41 : decode cM_lambdas 41 = .ok (.getfield 47, 3) := by decide +kernel
theorem dM_lambdas_44 : decode cM_lambdas 44 = .ok (.iload 4, 2) := by decide +kernel
theorem dM_lambdas_46 : decode cM_lambdas 46 = .ok (.iaload, 1) := by decide +kernel
theorem dM_lambdas_47 : decode cM_lambdas 47 = .ok (.istore 4, 2) := by decide +kernel
theorem dM_lambdas_49 : decode cM_lambdas 49 = .ok (.goto (-39), 3) := by decide +kernel
theorem dM_lambdas_52 : decode cM_lambdas 52 = .ok (.iload_n 3, 1) := by decide +kernel
theorem dM_lambdas_53 : decode cM_lambdas 53 = .ok (.ireturn, 1) := by decide +kernel
theorem dM_sizeOf_0 : decode cM_sizeOf 0 = .ok (.iconst 1, 1) := by decide +kernel
theorem dM_sizeOf_1 : decode cM_sizeOf 1 = .ok (.istore_n 2, 1) := by decide +kernel
theorem dM_sizeOf_2 : decode cM_sizeOf 2 = .ok (.iload_n 1, 1) := by decide +kernel
theorem dM_sizeOf_3 : decode cM_sizeOf 3 = .ok (.iload_n 2, 1) := by decide +kernel
theorem dM_sizeOf_4 : decode cM_sizeOf 4 = .ok (.iadd, 1) := by decide +kernel
theorem dM_sizeOf_5 : decode cM_sizeOf 5 = .ok (.aload_n 0, 1) := by decide +kernel
theorem dM_sizeOf_6 : decode cM_sizeOf 6 = .ok (.getfield 87, 3) := by decide +kernel
theorem dM_sizeOf_9 : decode cM_sizeOf 9 = .ok (.if_icmp .ge 26, 3) := by decide +kernel
theorem dM_sizeOf_12 : decode cM_sizeOf 12 = .ok (.aload_n 0, 1) := by decide +kernel
theorem dM_sizeOf_13 : decode cM_sizeOf 13 = .ok (.getfield 50, 3) := by decide +kernel
theorem dM_sizeOf_16 : decode cM_sizeOf 16 = .ok (.iload_n 1, 1) := by decide +kernel
theorem dM_sizeOf_17 : decode cM_sizeOf 17 = .ok (.iload_n 2, 1) := by decide +kernel
theorem dM_sizeOf_18 : decode cM_sizeOf 18 = .ok (.iadd, 1) := by decide +kernel
theorem dM_sizeOf_19 : decode cM_sizeOf 19 = .ok (.iaload, 1) := by decide +kernel
theorem dM_sizeOf_20 : decode cM_sizeOf 20 = .ok (.aload_n 0, 1) := by decide +kernel
theorem dM_sizeOf_21 : decode cM_sizeOf 21 = .ok (.getfield 50, 3) := by decide +kernel
theorem dM_sizeOf_24 : decode cM_sizeOf 24 = .ok (.iload_n 1, 1) := by decide +kernel
theorem dM_sizeOf_25 : decode cM_sizeOf 25 = .ok (.iaload, 1) := by decide +kernel
theorem dM_sizeOf_26 : decode cM_sizeOf 26 = .ok (.if_icmp .le 9, 3) := by decide +kernel
theorem dM_sizeOf_29 : decode cM_sizeOf 29 = .ok (.iinc 2 1, 3) := by decide +kernel
theorem dM_sizeOf_32 : decode cM_sizeOf 32 = .ok (.goto (-30), 3) := by decide +kernel
theorem dM_sizeOf_35 : decode cM_sizeOf 35 = .ok (.iload_n 2, 1) := by decide +kernel
theorem dM_sizeOf_36 : decode cM_sizeOf 36 = .ok (.ireturn, 1) := by decide +kernel
theorem dM_clear_0 : decode cM_clear 0 = .ok (.aload_n 0, 1) := by decide +kernel
theorem dM_clear_1 : decode cM_clear 1 = .ok (.iconst 0, 1) := by decide +kernel
theorem dM_clear_2 : decode cM_clear 2 = .ok (.putfield 77, 3) := by decide +kernel
theorem dM_clear_5 : decode cM_clear 5 = .ok (.iconst 0, 1) := by decide +kernel
theorem dM_clear_6 : decode cM_clear 6 = .ok (.istore_n 1, 1) := by decide +kernel
theorem dM_clear_7 : decode cM_clear 7 = .ok (.iload_n 1, 1) := by decide +kernel
theorem dM_clear_8 : decode cM_clear 8 = .ok (.sipush 200, 3) := by decide +kernel
theorem dM_clear_11 : decode cM_clear 11 = .ok (.if_icmp .ge 16, 3) := by decide +kernel
theorem dM_clear_14 : decode cM_clear 14 = .ok (.aload_n 0, 1) := by decide +kernel
theorem dM_clear_15 : decode cM_clear 15 = .ok (.getfield 7, 3) := by decide +kernel
theorem dM_clear_18 : decode cM_clear 18 = .ok (.iload_n 1, 1) := by decide +kernel
theorem dM_clear_19 : decode cM_clear 19 = .ok (.iconst 0, 1) := by decide +kernel
theorem dM_clear_20 : decode cM_clear 20 = .ok (.bastore, 1) := by decide +kernel
theorem dM_clear_21 : decode cM_clear 21 = .ok (.iinc 1 1, 3) := by decide +kernel
theorem dM_clear_24 : decode cM_clear 24 = .ok (.goto (-17), 3) := by decide +kernel
theorem dM_clear_27 : decode cM_clear 27 = .ok (.aload_n 0, 1) := by decide +kernel
theorem dM_clear_28 : decode cM_clear 28 = .ok (.iconst 0, 1) := by decide +kernel
theorem dM_clear_29 : decode cM_clear 29 = .ok (.putfield 84, 3) := by decide +kernel
theorem dM_clear_32 : decode cM_clear 32 = .ok (.aload_n 0, 1) := by decide +kernel
theorem dM_clear_33 : decode cM_clear 33 = .ok (.iconst 0, 1) := by decide +kernel
theorem dM_clear_34 : decode cM_clear 34 = .ok (.putfield 94, 3) := by decide +kernel
theorem dM_clear_37 : decode cM_clear 37 = .ok (.return_, 1) := by decide +kernel
theorem dM_isArg_0 : decode cM_isArg 0 = .ok (.iload_n 0, 1) := by decide +kernel
theorem dM_isArg_1 : decode cM_isArg 1 = .ok (.bipush 7, 2) := by decide +kernel
theorem dM_isArg_3 : decode cM_isArg 3 = .ok (.if_icmp .eq 74, 3) := by decide +kernel
theorem dM_isArg_6 : decode cM_isArg 6 = .ok (.iload_n 0, 1) := by decide +kernel
theorem dM_isArg_7 : decode cM_isArg 7 = .ok (.ifCond .ne 20, 3) := by decide +kernel
theorem dM_isArg_10 : decode cM_isArg 10 = .ok (.lload_n 1, 1) := by decide +kernel
theorem dM_isArg_11 : decode cM_isArg 11 = .ok (.lconst 1, 1) := by decide +kernel
theorem dM_isArg_12 : decode cM_isArg 12 = .ok (.lcmp, 1) := by decide +kernel
theorem dM_isArg_13 : decode cM_isArg 13 = .ok (.ifCond .lt 68, 3) := by decide +kernel
theorem dM_isArg_16 : decode cM_isArg 16 = .ok (.lload_n 1, 1) := by decide +kernel
theorem dM_isArg_17 : decode cM_isArg 17 = .ok (.ldc2_w 97, 3) := by decide +kernel
theorem dM_isArg_20 : decode cM_isArg 20 = .ok (.lcmp, 1) := by decide +kernel
theorem dM_isArg_21 : decode cM_isArg 21 = .ok (.ifCond .gt 60, 3) := by decide +kernel
theorem dM_isArg_24 : decode cM_isArg 24 = .ok (.goto 53, 3) := by decide +kernel
theorem dM_isArg_27 : decode cM_isArg 27 = .ok (.iload_n 0, 1) := by decide +kernel
theorem dM_isArg_28 : decode cM_isArg 28 = .ok (.bipush 6, 2) := by decide +kernel
theorem dM_isArg_30 : decode cM_isArg 30 = .ok (.if_icmp .ne 20, 3) := by decide +kernel
theorem dM_isArg_33 : decode cM_isArg 33 = .ok (.lload_n 1, 1) := by decide +kernel
theorem dM_isArg_34 : decode cM_isArg 34 = .ok (.lconst 0, 1) := by decide +kernel
theorem dM_isArg_35 : decode cM_isArg 35 = .ok (.lcmp, 1) := by decide +kernel
theorem dM_isArg_36 : decode cM_isArg 36 = .ok (.ifCond .lt 45, 3) := by decide +kernel
theorem dM_isArg_39 : decode cM_isArg 39 = .ok (.lload_n 1, 1) := by decide +kernel
theorem dM_isArg_40 : decode cM_isArg 40 = .ok (.ldc2_w 99, 3) := by decide +kernel
theorem dM_isArg_43 : decode cM_isArg 43 = .ok (.lcmp, 1) := by decide +kernel
theorem dM_isArg_44 : decode cM_isArg 44 = .ok (.ifCond .gt 37, 3) := by decide +kernel
theorem dM_isArg_47 : decode cM_isArg 47 = .ok (.goto 30, 3) := by decide +kernel
theorem dM_isArg_50 : decode cM_isArg 50 = .ok (.iload_n 0, 1) := by decide +kernel
theorem dM_isArg_51 : decode cM_isArg 51 = .ok (.bipush 9, 2) := by decide +kernel
theorem dM_isArg_53 : decode cM_isArg 53 = .ok (.if_icmp .ne 18, 3) := by decide +kernel
theorem dM_isArg_56 : decode cM_isArg 56 = .ok (.lload_n 1, 1) := by decide +kernel
theorem dM_isArg_57 : decode cM_isArg 57 = .ok (.lconst 0, 1) := by decide +kernel
theorem dM_isArg_58 : decode cM_isArg 58 = .ok (.lcmp, 1) := by decide +kernel
theorem dM_isArg_59 : decode cM_isArg 59 = .ok (.ifCond .eq 18, 3) := by decide +kernel
theorem dM_isArg_62 : decode cM_isArg 62 = .ok (.lload_n 1, 1) := by decide +kernel
theorem dM_isArg_63 : decode cM_isArg 63 = .ok (.lconst 1, 1) := by decide +kernel
theorem dM_isArg_64 : decode cM_isArg 64 = .ok (.lcmp, 1) := by decide +kernel
theorem dM_isArg_65 : decode cM_isArg 65 = .ok (.ifCond .ne 16, 3) := by decide +kernel
theorem dM_isArg_68 : decode cM_isArg 68 = .ok (.goto 9, 3) := by decide +kernel
theorem dM_isArg_71 : decode cM_isArg 71 = .ok (.lload_n 1, 1) := by decide +kernel
theorem dM_isArg_72 : decode cM_isArg 72 = .ok (.lconst 0, 1) := by decide +kernel
theorem dM_isArg_73 : decode cM_isArg 73 = .ok (.lcmp, 1) := by decide +kernel
theorem dM_isArg_74 : decode cM_isArg 74 = .ok (.ifCond .ne 7, 3) := by decide +kernel
theorem dM_isArg_77 : decode cM_isArg 77 = .ok (.iconst 1, 1) := by decide +kernel
theorem dM_isArg_78 : decode cM_isArg 78 = .ok (.goto 4, 3) := by decide +kernel
theorem dM_isArg_81 : decode cM_isArg 81 = .ok (.iconst 0, 1) := by decide +kernel
theorem dM_isArg_82 : decode cM_isArg 82 = .ok (.ireturn, 1) := by decide +kernel
theorem dM_deepest_0 : decode cM_deepest 0 = .ok (.iconst 0, 1) := by decide +kernel
theorem dM_deepest_1 : decode cM_deepest 1 = .ok (.istore_n 2, 1) := by decide +kernel
theorem dM_deepest_2 : decode cM_deepest 2 = .ok (.iconst 0, 1) := by decide +kernel
theorem dM_deepest_3 : decode cM_deepest 3 = .ok (.istore_n 3, 1) := by decide +kernel
theorem dM_deepest_4 : decode cM_deepest 4 = .ok (.iload_n 3, 1) := by decide +kernel
theorem dM_deepest_5 : decode cM_deepest 5 = .ok (.iload_n 1, 1) := by decide +kernel
theorem dM_deepest_6 : decode cM_deepest 6 = .ok (.if_icmp .ge 41, 3) := by decide +kernel
theorem dM_deepest_9 : decode cM_deepest 9 = .ok (.aload_n 0, 1) := by decide +kernel
theorem dM_deepest_10 : decode cM_deepest 10 = .ok (.aload_n 0, 1) := by decide +kernel
theorem dM_deepest_11 : decode cM_deepest 11 = .ok (.getfield 31, 3) := by decide +kernel
theorem dM_deepest_14 : decode cM_deepest 14 = .ok (.aload_n 0, 1) := by decide +kernel
theorem dM_deepest_15 : decode cM_deepest 15 = .ok (.getfield 94, 3) := by decide +kernel
theorem dM_deepest_18 : decode cM_deepest 18 = .ok (.iconst 1, 1) := by decide +kernel
theorem dM_deepest_19 : decode cM_deepest 19 = .ok (.isub, 1) := by decide +kernel
theorem dM_deepest_20 : decode cM_deepest 20 = .ok (.iload_n 3, 1) := by decide +kernel
theorem dM_deepest_21 : decode cM_deepest 21 = .ok (.isub, 1) := by decide +kernel
theorem dM_deepest_22 : decode cM_deepest 22 = .ok (.iaload, 1) := by decide +kernel
theorem dM_deepest_23 : decode cM_deepest 23 = .ok (.invokevirtual 101, 3) := by decide +kernel
theorem dM_deepest_26 : decode cM_deepest 26 = .ok (.istore 4, 2) := by decide +kernel
theorem dM_deepest_28 : decode cM_deepest 28 = .ok (.iload 4, 2) := by decide +kernel
theorem dM_deepest_30 : decode cM_deepest 30 = .ok (.iload_n 2, 1) := by decide +kernel
theorem dM_deepest_31 : decode cM_deepest 31 = .ok (.if_icmp .le 8, 3) := by decide +kernel
theorem dM_deepest_34 : decode cM_deepest 34 = .ok (.iload 4, 2) := by decide +kernel
theorem dM_deepest_36 : decode cM_deepest 36 = .ok (.goto 4, 3) := by decide +kernel
theorem dM_deepest_39 : decode cM_deepest 39 = .ok (.iload_n 2, 1) := by decide +kernel
theorem dM_deepest_40 : decode cM_deepest 40 = .ok (.istore_n 2, 1) := by decide +kernel
theorem dM_deepest_41 : decode cM_deepest 41 = .ok (.iinc 3 1, 3) := by decide +kernel
theorem dM_deepest_44 : decode cM_deepest 44 = .ok (.goto (-40), 3) := by decide +kernel
theorem dM_deepest_47 : decode cM_deepest 47 = .ok (.iload_n 2, 1) := by decide +kernel
theorem dM_deepest_48 : decode cM_deepest 48 = .ok (.ireturn, 1) := by decide +kernel
theorem dM_node_0 : decode cM_node 0 = .ok (.aload_n 0, 1) := by decide +kernel
theorem dM_node_1 : decode cM_node 1 = .ok (.iload_n 1, 1) := by decide +kernel
theorem dM_node_2 : decode cM_node 2 = .ok (.ifCond .lt 23, 3) := by decide +kernel
theorem dM_node_5 : decode cM_node 5 = .ok (.iload_n 1, 1) := by decide +kernel
theorem dM_node_6 : decode cM_node 6 = .ok (.bipush 11, 2) := by decide +kernel
theorem dM_node_8 : decode cM_node 8 = .ok (.if_icmp .gt 17, 3) := by decide +kernel
theorem dM_node_11 : decode cM_node 11 = .ok (.iload_n 1, 1) := by decide +kernel
theorem dM_node_12 : decode cM_node 12 = .ok (.bipush 8, 2) := by decide +kernel
theorem dM_node_14 : decode cM_node 14 = .ok (.if_icmp .eq 11, 3) := by decide +kernel
theorem dM_node_17 : decode cM_node 17 = .ok (.iload_n 1, 1) := by decide +kernel
theorem dM_node_18 : decode cM_node 18 = .ok (.lload_n 2, 1) := by decide +kernel
theorem dM_node_19 : decode cM_node 19 = .ok (.invokestatic 105, 3) := by decide +kernel
theorem dM_node_22 : decode cM_node 22 = .ok (.ifCond .ne 7, 3) := by decide +kernel
theorem dM_node_25 : decode cM_node 25 = .ok (.iconst 1, 1) := by decide +kernel
theorem dM_node_26 : decode cM_node 26 = .ok (.goto 4, 3) := by decide +kernel
theorem dM_node_29 : decode cM_node 29 = .ok (.iconst 0, 1) := by decide +kernel
theorem dM_node_30 : decode cM_node 30 = .ok (.putfield 77, 3) := by decide +kernel
theorem dM_node_33 : decode cM_node 33 = .ok (.aload_n 0, 1) := by decide +kernel
theorem dM_node_34 : decode cM_node 34 = .ok (.getfield 77, 3) := by decide +kernel
theorem dM_node_37 : decode cM_node 37 = .ok (.ifCond .le 5, 3) := by decide +kernel
theorem dM_node_40 : decode cM_node 40 = .ok (.iconst 0, 1) := by decide +kernel
theorem dM_node_41 : decode cM_node 41 = .ok (.ireturn, 1) := by decide +kernel
theorem dM_node_42 : decode cM_node 42 = .ok (.iload_n 1, 1) := by decide +kernel
theorem dM_node_43 : decode cM_node 43 = .ok (.invokestatic 109, 3) := by decide +kernel
theorem dM_node_46 : decode cM_node 46 = .ok (.istore 4, 2) := by decide +kernel
theorem dM_node_48 : decode cM_node 48 = .ok (.aload_n 0, 1) := by decide +kernel
theorem dM_node_49 : decode cM_node 49 = .ok (.aload_n 0, 1) := by decide +kernel
theorem dM_node_50 : decode cM_node 50 = .ok (.getfield 94, 3) := by decide +kernel
theorem dM_node_53 : decode cM_node 53 = .ok (.iload 4, 2) := by decide +kernel
theorem dM_node_55 : decode cM_node 55 = .ok (.if_icmp .lt 13, 3) := by decide +kernel
theorem dM_node_58 : decode cM_node 58 = .ok (.aload_n 0, 1) := by decide +kernel
theorem dM_node_59 : decode cM_node 59 = .ok (.getfield 84, 3) := by decide +kernel
theorem dM_node_62 : decode cM_node 62 = .ok (.sipush 200, 3) := by decide +kernel
theorem dM_node_65 : decode cM_node 65 = .ok (.if_icmp .ne 7, 3) := by decide +kernel
theorem dM_node_68 : decode cM_node 68 = .ok (.iconst 2, 1) := by decide +kernel
theorem dM_node_69 : decode cM_node 69 = .ok (.goto 4, 3) := by decide +kernel
theorem dM_node_72 : decode cM_node 72 = .ok (.iconst 0, 1) := by decide +kernel
theorem dM_node_73 : decode cM_node 73 = .ok (.putfield 77, 3) := by decide +kernel
theorem dM_node_76 : decode cM_node 76 = .ok (.aload_n 0, 1) := by decide +kernel
theorem dM_node_77 : decode cM_node 77 = .ok (.getfield 77, 3) := by decide +kernel
theorem dM_node_80 : decode cM_node 80 = .ok (.ifCond .le 5, 3) := by decide +kernel
theorem dM_node_83 : decode cM_node 83 = .ok (.iconst 0, 1) := by decide +kernel
theorem dM_node_84 : decode cM_node 84 = .ok (.ireturn, 1) := by decide +kernel
theorem dM_node_85 : decode cM_node 85 = .ok (.aload_n 0, 1) := by decide +kernel
theorem dM_node_86 : decode cM_node 86 = .ok (.aload_n 0, 1) := by decide +kernel
theorem dM_node_87 : decode cM_node 87 = .ok (.iload 4, 2) := by decide +kernel
theorem dM_node_89 : decode cM_node 89 = .ok (.invokevirtual 112, 3) := by decide +kernel
theorem dM_node_92 : decode cM_node 92 = .ok (.bipush 60, 2) := by decide +kernel
theorem dM_node_94 : decode cM_node 94 = .ok (.if_icmp .ne 7, 3) := by decide +kernel
theorem dM_node_97 : decode cM_node 97 = .ok (.iconst 2, 1) := by decide +kernel
theorem dM_node_98 : decode cM_node 98 = .ok (.goto 4, 3) := by decide +kernel
theorem dM_node_101 : decode cM_node 101 = .ok (.iconst 0, 1) := by decide +kernel
theorem dM_node_102 : decode cM_node 102 = .ok (.putfield 77, 3) := by decide +kernel
theorem dM_node_105 : decode cM_node 105 = .ok (.aload_n 0, 1) := by decide +kernel
theorem dM_node_106 : decode cM_node 106 = .ok (.getfield 77, 3) := by decide +kernel
theorem dM_node_109 : decode cM_node 109 = .ok (.ifCond .le 5, 3) := by decide +kernel
theorem dM_node_112 : decode cM_node 112 = .ok (.iconst 0, 1) := by decide +kernel
theorem dM_node_113 : decode cM_node 113 = .ok (.ireturn, 1) := by decide +kernel
theorem dM_node_114 : decode cM_node 114 = .ok (.aload_n 0, 1) := by decide +kernel
theorem dM_node_115 : decode cM_node 115 = .ok (.iload_n 1, 1) := by decide +kernel
theorem dM_node_116 : decode cM_node 116 = .ok (.lload_n 2, 1) := by decide +kernel
theorem dM_node_117 : decode cM_node 117 = .ok (.invokevirtual 115, 3) := by decide +kernel
theorem dM_node_120 : decode cM_node 120 = .ok (.istore 5, 2) := by decide +kernel
theorem dM_node_122 : decode cM_node 122 = .ok (.iload 4, 2) := by decide +kernel
theorem dM_node_124 : decode cM_node 124 = .ok (.iconst 2, 1) := by decide +kernel
theorem dM_node_125 : decode cM_node 125 = .ok (.if_icmp .ne 29, 3) := by decide +kernel
theorem dM_node_128 : decode cM_node 128 = .ok (.aload_n 0, 1) := by decide +kernel
theorem dM_node_129 : decode cM_node 129 = .ok (.dup, 1) := by decide +kernel
theorem dM_node_130 : decode cM_node 130 = .ok (.getfield 94, 3) := by decide +kernel
theorem dM_node_133 : decode cM_node 133 = .ok (.iconst 1, 1) := by decide +kernel
theorem dM_node_134 : decode cM_node 134 = .ok (.isub, 1) := by decide +kernel
theorem dM_node_135 : decode cM_node 135 = .ok (.putfield 94, 3) := by decide +kernel
theorem dM_node_138 : decode cM_node 138 = .ok (.aload_n 0, 1) := by decide +kernel
theorem dM_node_139 : decode cM_node 139 = .ok (.getfield 24, 3) := by decide +kernel
theorem dM_node_142 : decode cM_node 142 = .ok (.iload 5, 2) := by decide +kernel
theorem dM_node_144 : decode cM_node 144 = .ok (.aload_n 0, 1) := by decide +kernel
theorem dM_node_145 : decode cM_node 145 = .ok (.getfield 31, 3) := by decide +kernel
theorem dM_node_148 : decode cM_node 148 = .ok (.aload_n 0, 1) := by decide +kernel
theorem dM_node_149 : decode cM_node 149 = .ok (.getfield 94, 3) := by decide +kernel
theorem dM_node_152 : decode cM_node 152 = .ok (.iaload, 1) := by decide +kernel
theorem dM_node_153 : decode cM_node 153 = .ok (.iastore, 1) := by decide +kernel
theorem dM_node_154 : decode cM_node 154 = .ok (.iload 4, 2) := by decide +kernel
theorem dM_node_156 : decode cM_node 156 = .ok (.ifCond .le 29, 3) := by decide +kernel
theorem dM_node_159 : decode cM_node 159 = .ok (.aload_n 0, 1) := by decide +kernel
theorem dM_node_160 : decode cM_node 160 = .ok (.dup, 1) := by decide +kernel
theorem dM_node_161 : decode cM_node 161 = .ok (.getfield 94, 3) := by decide +kernel
theorem dM_node_164 : decode cM_node 164 = .ok (.iconst 1, 1) := by decide +kernel
theorem dM_node_165 : decode cM_node 165 = .ok (.isub, 1) := by decide +kernel
theorem dM_node_166 : decode cM_node 166 = .ok (.putfield 94, 3) := by decide +kernel
theorem dM_node_169 : decode cM_node 169 = .ok (.aload_n 0, 1) := by decide +kernel
theorem dM_node_170 : decode cM_node 170 = .ok (.getfield 21, 3) := by decide +kernel
theorem dM_node_173 : decode cM_node 173 = .ok (.iload 5, 2) := by decide +kernel
theorem dM_node_175 : decode cM_node 175 = .ok (.aload_n 0, 1) := by decide +kernel
theorem dM_node_176 : decode cM_node 176 = .ok (.getfield 31, 3) := by decide +kernel
theorem dM_node_179 : decode cM_node 179 = .ok (.aload_n 0, 1) := by decide +kernel
theorem dM_node_180 : decode cM_node 180 = .ok (.getfield 94, 3) := by decide +kernel
theorem dM_node_183 : decode cM_node 183 = .ok (.iaload, 1) := by decide +kernel
theorem dM_node_184 : decode cM_node 184 = .ok (.iastore, 1) := by decide +kernel
theorem dM_node_185 : decode cM_node 185 = .ok (.aload_n 0, 1) := by decide +kernel
theorem dM_node_186 : decode cM_node 186 = .ok (.getfield 31, 3) := by decide +kernel
theorem dM_node_189 : decode cM_node 189 = .ok (.aload_n 0, 1) := by decide +kernel
theorem dM_node_190 : decode cM_node 190 = .ok (.getfield 94, 3) := by decide +kernel
theorem dM_node_193 : decode cM_node 193 = .ok (.iload 5, 2) := by decide +kernel
theorem dM_node_195 : decode cM_node 195 = .ok (.iastore, 1) := by decide +kernel
theorem dM_node_196 : decode cM_node 196 = .ok (.aload_n 0, 1) := by decide +kernel
theorem dM_node_197 : decode cM_node 197 = .ok (.dup, 1) := by decide +kernel
theorem dM_node_198 : decode cM_node 198 = .ok (.getfield 94, 3) := by decide +kernel
theorem dM_node_201 : decode cM_node 201 = .ok (.iconst 1, 1) := by decide +kernel
theorem dM_node_202 : decode cM_node 202 = .ok (.iadd, 1) := by decide +kernel
theorem dM_node_203 : decode cM_node 203 = .ok (.putfield 94, 3) := by decide +kernel
theorem dM_node_206 : decode cM_node 206 = .ok (.aload_n 0, 1) := by decide +kernel
theorem dM_node_207 : decode cM_node 207 = .ok (.getfield 94, 3) := by decide +kernel
theorem dM_node_210 : decode cM_node 210 = .ok (.ireturn, 1) := by decide +kernel
theorem dM_bytes_0 : decode cM_bytes 0 = .ok (.aload_n 0, 1) := by decide +kernel
theorem dM_bytes_1 : decode cM_bytes 1 = .ok (.iload_n 3, 1) := by decide +kernel
theorem dM_bytes_2 : decode cM_bytes 2 = .ok (.ifCond .lt 9, 3) := by decide +kernel
theorem dM_bytes_5 : decode cM_bytes 5 = .ok (.iload_n 3, 1) := by decide +kernel
theorem dM_bytes_6 : decode cM_bytes 6 = .ok (.bipush 8, 2) := by decide +kernel
theorem dM_bytes_8 : decode cM_bytes 8 = .ok (.if_icmp .le 7, 3) := by decide +kernel
theorem dM_bytes_11 : decode cM_bytes 11 = .ok (.iconst 1, 1) := by decide +kernel
theorem dM_bytes_12 : decode cM_bytes 12 = .ok (.goto 18, 3) := by decide +kernel
theorem dM_bytes_15 : decode cM_bytes 15 = .ok (.aload_n 0, 1) := by decide +kernel
theorem dM_bytes_16 : decode cM_bytes 16 = .ok (.getfield 84, 3) := by decide +kernel
theorem dM_bytes_19 : decode cM_bytes 19 = .ok (.sipush 200, 3) := by decide +kernel
theorem dM_bytes_22 : decode cM_bytes 22 = .ok (.if_icmp .ne 7, 3) := by decide +kernel
theorem dM_bytes_25 : decode cM_bytes 25 = .ok (.iconst 2, 1) := by decide +kernel
theorem dM_bytes_26 : decode cM_bytes 26 = .ok (.goto 4, 3) := by decide +kernel
theorem dM_bytes_29 : decode cM_bytes 29 = .ok (.iconst 0, 1) := by decide +kernel
theorem dM_bytes_30 : decode cM_bytes 30 = .ok (.putfield 77, 3) := by decide +kernel
theorem dM_bytes_33 : decode cM_bytes 33 = .ok (.aload_n 0, 1) := by decide +kernel
theorem dM_bytes_34 : decode cM_bytes 34 = .ok (.getfield 77, 3) := by decide +kernel
theorem dM_bytes_37 : decode cM_bytes 37 = .ok (.ifCond .le 5, 3) := by decide +kernel
theorem dM_bytes_40 : decode cM_bytes 40 = .ok (.iconst 0, 1) := by decide +kernel
theorem dM_bytes_41 : decode cM_bytes 41 = .ok (.ireturn, 1) := by decide +kernel
theorem dM_bytes_42 : decode cM_bytes 42 = .ok (.aload_n 0, 1) := by decide +kernel
theorem dM_bytes_43 : decode cM_bytes 43 = .ok (.bipush 8, 2) := by decide +kernel
theorem dM_bytes_45 : decode cM_bytes 45 = .ok (.lconst 0, 1) := by decide +kernel
theorem dM_bytes_46 : decode cM_bytes 46 = .ok (.invokevirtual 115, 3) := by decide +kernel
theorem dM_bytes_49 : decode cM_bytes 49 = .ok (.istore 4, 2) := by decide +kernel
theorem dM_bytes_51 : decode cM_bytes 51 = .ok (.aload_n 0, 1) := by decide +kernel
theorem dM_bytes_52 : decode cM_bytes 52 = .ok (.iload 4, 2) := by decide +kernel
theorem dM_bytes_54 : decode cM_bytes 54 = .ok (.lload_n 1, 1) := by decide +kernel
theorem dM_bytes_55 : decode cM_bytes 55 = .ok (.iload_n 3, 1) := by decide +kernel
theorem dM_bytes_56 : decode cM_bytes 56 = .ok (.invokevirtual 119, 3) := by decide +kernel
theorem dM_bytes_59 : decode cM_bytes 59 = .ok (.aload_n 0, 1) := by decide +kernel
theorem dM_bytes_60 : decode cM_bytes 60 = .ok (.getfield 31, 3) := by decide +kernel
theorem dM_bytes_63 : decode cM_bytes 63 = .ok (.aload_n 0, 1) := by decide +kernel
theorem dM_bytes_64 : decode cM_bytes 64 = .ok (.getfield 94, 3) := by decide +kernel
theorem dM_bytes_67 : decode cM_bytes 67 = .ok (.iload 4, 2) := by decide +kernel
theorem dM_bytes_69 : decode cM_bytes 69 = .ok (.iastore, 1) := by decide +kernel
theorem dM_bytes_70 : decode cM_bytes 70 = .ok (.aload_n 0, 1) := by decide +kernel
theorem dM_bytes_71 : decode cM_bytes 71 = .ok (.dup, 1) := by decide +kernel
theorem dM_bytes_72 : decode cM_bytes 72 = .ok (.getfield 94, 3) := by decide +kernel
theorem dM_bytes_75 : decode cM_bytes 75 = .ok (.iconst 1, 1) := by decide +kernel
theorem dM_bytes_76 : decode cM_bytes 76 = .ok (.iadd, 1) := by decide +kernel
theorem dM_bytes_77 : decode cM_bytes 77 = .ok (.putfield 94, 3) := by decide +kernel
theorem dM_bytes_80 : decode cM_bytes 80 = .ok (.aload_n 0, 1) := by decide +kernel
theorem dM_bytes_81 : decode cM_bytes 81 = .ok (.getfield 94, 3) := by decide +kernel
theorem dM_bytes_84 : decode cM_bytes 84 = .ok (.ireturn, 1) := by decide +kernel
theorem dM_append_0 : decode cM_append 0 = .ok (.iload 4, 2) := by decide +kernel
theorem dM_append_2 : decode cM_append 2 = .ok (.iconst 1, 1) := by decide +kernel
theorem dM_append_3 : decode cM_append 3 = .ok (.isub, 1) := by decide +kernel
theorem dM_append_4 : decode cM_append 4 = .ok (.istore 5, 2) := by decide +kernel
theorem dM_append_6 : decode cM_append 6 = .ok (.iload 5, 2) := by decide +kernel
theorem dM_append_8 : decode cM_append 8 = .ok (.ifCond .lt 45, 3) := by decide +kernel
theorem dM_append_11 : decode cM_append 11 = .ok (.aload_n 0, 1) := by decide +kernel
theorem dM_append_12 : decode cM_append 12 = .ok (.getfield 27, 3) := by decide +kernel
theorem dM_append_15 : decode cM_append 15 = .ok (.bipush 64, 2) := by decide +kernel
theorem dM_append_17 : decode cM_append 17 = .ok (.iload_n 1, 1) := by decide +kernel
theorem dM_append_18 : decode cM_append 18 = .ok (.imul, 1) := by decide +kernel
theorem dM_append_19 : decode cM_append 19 = .ok (.aload_n 0, 1) := by decide +kernel
theorem dM_append_20 : decode cM_append 20 = .ok (.getfield 17, 3) := by decide +kernel
theorem dM_append_23 : decode cM_append 23 = .ok (.iload_n 1, 1) := by decide +kernel
theorem dM_append_24 : decode cM_append 24 = .ok (.laload, 1) := by decide +kernel
theorem dM_append_25 : decode cM_append 25 = .ok (.l2i, 1) := by decide +kernel
theorem dM_append_26 : decode cM_append 26 = .ok (.iadd, 1) := by decide +kernel
theorem dM_append_27 : decode cM_append 27 = .ok (.lload_n 2, 1) := by decide +kernel
theorem dM_append_28 : decode cM_append 28 = .ok (.bipush 8, 2) := by decide +kernel
theorem dM_append_30 : decode cM_append 30 = .ok (.iload 5, 2) := by decide +kernel
theorem dM_append_32 : decode cM_append 32 = .ok (.imul, 1) := by decide +kernel
theorem dM_append_33 : decode cM_append 33 = .ok (.lshr, 1) := by decide +kernel
theorem dM_append_34 : decode cM_append 34 = .ok (.l2i, 1) := by decide +kernel
theorem dM_append_35 : decode cM_append 35 = .ok (.i2b, 1) := by decide +kernel
theorem dM_append_36 : decode cM_append 36 = .ok (.bastore, 1) := by decide +kernel
theorem dM_append_37 : decode cM_append 37 = .ok (.aload_n 0, 1) := by decide +kernel
theorem dM_append_38 : decode cM_append 38 = .ok (.getfield 17, 3) := by decide +kernel
theorem dM_append_41 : decode cM_append 41 = .ok (.iload_n 1, 1) := by decide +kernel
theorem dM_append_42 : decode cM_append 42 = .ok (.dup2, 1) := by decide +kernel
theorem dM_append_43 : decode cM_append 43 = .ok (.laload, 1) := by decide +kernel
theorem dM_append_44 : decode cM_append 44 = .ok (.lconst 1, 1) := by decide +kernel
theorem dM_append_45 : decode cM_append 45 = .ok (.ladd, 1) := by decide +kernel
theorem dM_append_46 : decode cM_append 46 = .ok (.lastore, 1) := by decide +kernel
theorem dM_append_47 : decode cM_append 47 = .ok (.iinc 5 (-1), 3) := by decide +kernel
theorem dM_append_50 : decode cM_append 50 = .ok (.goto (-44), 3) := by decide +kernel
theorem dM_append_53 : decode cM_append 53 = .ok (.return_, 1) := by decide +kernel
theorem dM_more_0 : decode cM_more 0 = .ok (.aload_n 0, 1) := by decide +kernel
theorem dM_more_1 : decode cM_more 1 = .ok (.iconst 0, 1) := by decide +kernel
theorem dM_more_2 : decode cM_more 2 = .ok (.putfield 77, 3) := by decide +kernel
theorem dM_more_5 : decode cM_more 5 = .ok (.aload_n 0, 1) := by decide +kernel
theorem dM_more_6 : decode cM_more 6 = .ok (.getfield 94, 3) := by decide +kernel
theorem dM_more_9 : decode cM_more 9 = .ok (.ifCond .ne 7, 3) := by decide +kernel
theorem dM_more_12 : decode cM_more 12 = .ok (.iconst 0, 1) := by decide +kernel
theorem dM_more_13 : decode cM_more 13 = .ok (.goto 14, 3) := by decide +kernel
theorem dM_more_16 : decode cM_more 16 = .ok (.aload_n 0, 1) := by decide +kernel
theorem dM_more_17 : decode cM_more 17 = .ok (.getfield 31, 3) := by decide +kernel
theorem dM_more_20 : decode cM_more 20 = .ok (.aload_n 0, 1) := by decide +kernel
theorem dM_more_21 : decode cM_more 21 = .ok (.getfield 94, 3) := by decide +kernel
theorem dM_more_24 : decode cM_more 24 = .ok (.iconst 1, 1) := by decide +kernel
theorem dM_more_25 : decode cM_more 25 = .ok (.isub, 1) := by decide +kernel
theorem dM_more_26 : decode cM_more 26 = .ok (.iaload, 1) := by decide +kernel
theorem dM_more_27 : decode cM_more 27 = .ok (.istore 4, 2) := by decide +kernel
theorem dM_more_29 : decode cM_more 29 = .ok (.aload_n 0, 1) := by decide +kernel
theorem dM_more_30 : decode cM_more 30 = .ok (.getfield 94, 3) := by decide +kernel
theorem dM_more_33 : decode cM_more 33 = .ok (.ifCond .eq 43, 3) := by decide +kernel
theorem dM_more_36 : decode cM_more 36 = .ok (.aload_n 0, 1) := by decide +kernel
theorem dM_more_37 : decode cM_more 37 = .ok (.getfield 13, 3) := by decide +kernel
theorem dM_more_40 : decode cM_more 40 = .ok (.iload 4, 2) := by decide +kernel
theorem dM_more_42 : decode cM_more 42 = .ok (.iaload, 1) := by decide +kernel
theorem dM_more_43 : decode cM_more 43 = .ok (.bipush 8, 2) := by decide +kernel
theorem dM_more_45 : decode cM_more 45 = .ok (.if_icmp .ne 31, 3) := by decide +kernel
theorem dM_more_48 : decode cM_more 48 = .ok (.iload_n 3, 1) := by decide +kernel
theorem dM_more_49 : decode cM_more 49 = .ok (.iconst 1, 1) := by decide +kernel
theorem dM_more_50 : decode cM_more 50 = .ok (.if_icmp .lt 26, 3) := by decide +kernel
theorem dM_more_53 : decode cM_more 53 = .ok (.iload_n 3, 1) := by decide +kernel
theorem dM_more_54 : decode cM_more 54 = .ok (.bipush 8, 2) := by decide +kernel
theorem dM_more_56 : decode cM_more 56 = .ok (.if_icmp .gt 20, 3) := by decide +kernel
theorem dM_more_59 : decode cM_more 59 = .ok (.aload_n 0, 1) := by decide +kernel
theorem dM_more_60 : decode cM_more 60 = .ok (.getfield 17, 3) := by decide +kernel
theorem dM_more_63 : decode cM_more 63 = .ok (.iload 4, 2) := by decide +kernel
theorem dM_more_65 : decode cM_more 65 = .ok (.laload, 1) := by decide +kernel
theorem dM_more_66 : decode cM_more 66 = .ok (.iload_n 3, 1) := by decide +kernel
theorem dM_more_67 : decode cM_more 67 = .ok (.i2l, 1) := by decide +kernel
theorem dM_more_68 : decode cM_more 68 = .ok (.ladd, 1) := by decide +kernel
theorem dM_more_69 : decode cM_more 69 = .ok (.ldc2_w 123, 3) := by decide +kernel
theorem dM_more_72 : decode cM_more 72 = .ok (.lcmp, 1) := by decide +kernel
theorem dM_more_73 : decode cM_more 73 = .ok (.ifCond .le 5, 3) := by decide +kernel
theorem dM_more_76 : decode cM_more 76 = .ok (.iconst 0, 1) := by decide +kernel
theorem dM_more_77 : decode cM_more 77 = .ok (.ireturn, 1) := by decide +kernel
theorem dM_more_78 : decode cM_more 78 = .ok (.aload_n 0, 1) := by decide +kernel
theorem dM_more_79 : decode cM_more 79 = .ok (.iload 4, 2) := by decide +kernel
theorem dM_more_81 : decode cM_more 81 = .ok (.lload_n 1, 1) := by decide +kernel
theorem dM_more_82 : decode cM_more 82 = .ok (.iload_n 3, 1) := by decide +kernel
theorem dM_more_83 : decode cM_more 83 = .ok (.invokevirtual 119, 3) := by decide +kernel
theorem dM_more_86 : decode cM_more 86 = .ok (.iconst 1, 1) := by decide +kernel
theorem dM_more_87 : decode cM_more 87 = .ok (.ireturn, 1) := by decide +kernel
theorem dM_drop_0 : decode cM_drop 0 = .ok (.aload_n 0, 1) := by decide +kernel
theorem dM_drop_1 : decode cM_drop 1 = .ok (.iconst 0, 1) := by decide +kernel
theorem dM_drop_2 : decode cM_drop 2 = .ok (.putfield 77, 3) := by decide +kernel
theorem dM_drop_5 : decode cM_drop 5 = .ok (.aload_n 0, 1) := by decide +kernel
theorem dM_drop_6 : decode cM_drop 6 = .ok (.getfield 94, 3) := by decide +kernel
theorem dM_drop_9 : decode cM_drop 9 = .ok (.ifCond .ne 5, 3) := by decide +kernel
theorem dM_drop_12 : decode cM_drop 12 = .ok (.iconst 0, 1) := by decide +kernel
theorem dM_drop_13 : decode cM_drop 13 = .ok (.ireturn, 1) := by decide +kernel
theorem dM_drop_14 : decode cM_drop 14 = .ok (.aload_n 0, 1) := by decide +kernel
theorem dM_drop_15 : decode cM_drop 15 = .ok (.dup, 1) := by decide +kernel
theorem dM_drop_16 : decode cM_drop 16 = .ok (.getfield 94, 3) := by decide +kernel
theorem dM_drop_19 : decode cM_drop 19 = .ok (.iconst 1, 1) := by decide +kernel
theorem dM_drop_20 : decode cM_drop 20 = .ok (.isub, 1) := by decide +kernel
theorem dM_drop_21 : decode cM_drop 21 = .ok (.putfield 94, 3) := by decide +kernel
theorem dM_drop_24 : decode cM_drop 24 = .ok (.aload_n 0, 1) := by decide +kernel
theorem dM_drop_25 : decode cM_drop 25 = .ok (.aload_n 0, 1) := by decide +kernel
theorem dM_drop_26 : decode cM_drop 26 = .ok (.getfield 31, 3) := by decide +kernel
theorem dM_drop_29 : decode cM_drop 29 = .ok (.aload_n 0, 1) := by decide +kernel
theorem dM_drop_30 : decode cM_drop 30 = .ok (.getfield 94, 3) := by decide +kernel
theorem dM_drop_33 : decode cM_drop 33 = .ok (.iaload, 1) := by decide +kernel
theorem dM_drop_34 : decode cM_drop 34 = .ok (.invokevirtual 90, 3) := by decide +kernel
theorem dM_drop_37 : decode cM_drop 37 = .ok (.iconst 0, 1) := by decide +kernel
theorem dM_drop_38 : decode cM_drop 38 = .ok (.istore_n 1, 1) := by decide +kernel
theorem dM_drop_39 : decode cM_drop 39 = .ok (.iload_n 1, 1) := by decide +kernel
theorem dM_drop_40 : decode cM_drop 40 = .ok (.aload_n 0, 1) := by decide +kernel
theorem dM_drop_41 : decode cM_drop 41 = .ok (.getfield 87, 3) := by decide +kernel
theorem dM_drop_44 : decode cM_drop 44 = .ok (.if_icmp .ge 19, 3) := by decide +kernel
theorem dM_drop_47 : decode cM_drop 47 = .ok (.aload_n 0, 1) := by decide +kernel
theorem dM_drop_48 : decode cM_drop 48 = .ok (.aload_n 0, 1) := by decide +kernel
theorem dM_drop_49 : decode cM_drop 49 = .ok (.getfield 44, 3) := by decide +kernel
theorem dM_drop_52 : decode cM_drop 52 = .ok (.iload_n 1, 1) := by decide +kernel
theorem dM_drop_53 : decode cM_drop 53 = .ok (.iaload, 1) := by decide +kernel
theorem dM_drop_54 : decode cM_drop 54 = .ok (.invokevirtual 125, 3) := by decide +kernel
theorem dM_drop_57 : decode cM_drop 57 = .ok (.iinc 1 1, 3) := by decide +kernel
theorem dM_drop_60 : decode cM_drop 60 = .ok (.goto (-21), 3) := by decide +kernel
theorem dM_drop_63 : decode cM_drop 63 = .ok (.iconst 1, 1) := by decide +kernel
theorem dM_drop_64 : decode cM_drop 64 = .ok (.ireturn, 1) := by decide +kernel
theorem dM_twice_0 : decode cM_twice 0 = .ok (.aload_n 0, 1) := by decide +kernel
theorem dM_twice_1 : decode cM_twice 1 = .ok (.iconst 0, 1) := by decide +kernel
theorem dM_twice_2 : decode cM_twice 2 = .ok (.putfield 77, 3) := by decide +kernel
theorem dM_twice_5 : decode cM_twice 5 = .ok (.aload_n 0, 1) := by decide +kernel
theorem dM_twice_6 : decode cM_twice 6 = .ok (.getfield 94, 3) := by decide +kernel
theorem dM_twice_9 : decode cM_twice 9 = .ok (.ifCond .ne 5, 3) := by decide +kernel
theorem dM_twice_12 : decode cM_twice 12 = .ok (.iconst 0, 1) := by decide +kernel
theorem dM_twice_13 : decode cM_twice 13 = .ok (.ireturn, 1) := by decide +kernel
theorem dM_twice_14 : decode cM_twice 14 = .ok (.aload_n 0, 1) := by decide +kernel
theorem dM_twice_15 : decode cM_twice 15 = .ok (.aload_n 0, 1) := by decide +kernel
theorem dM_twice_16 : decode cM_twice 16 = .ok (.getfield 31, 3) := by decide +kernel
theorem dM_twice_19 : decode cM_twice 19 = .ok (.aload_n 0, 1) := by decide +kernel
theorem dM_twice_20 : decode cM_twice 20 = .ok (.getfield 94, 3) := by decide +kernel
theorem dM_twice_23 : decode cM_twice 23 = .ok (.iconst 1, 1) := by decide +kernel
theorem dM_twice_24 : decode cM_twice 24 = .ok (.isub, 1) := by decide +kernel
theorem dM_twice_25 : decode cM_twice 25 = .ok (.iaload, 1) := by decide +kernel
theorem dM_twice_26 : decode cM_twice 26 = .ok (.invokevirtual 90, 3) := by decide +kernel
theorem dM_twice_29 : decode cM_twice 29 = .ok (.aload_n 0, 1) := by decide +kernel
theorem dM_twice_30 : decode cM_twice 30 = .ok (.getfield 84, 3) := by decide +kernel
theorem dM_twice_33 : decode cM_twice 33 = .ok (.aload_n 0, 1) := by decide +kernel
theorem dM_twice_34 : decode cM_twice 34 = .ok (.getfield 87, 3) := by decide +kernel
theorem dM_twice_37 : decode cM_twice 37 = .ok (.iadd, 1) := by decide +kernel
theorem dM_twice_38 : decode cM_twice 38 = .ok (.sipush 200, 3) := by decide +kernel
theorem dM_twice_41 : decode cM_twice 41 = .ok (.if_icmp .le 5, 3) := by decide +kernel
theorem dM_twice_44 : decode cM_twice 44 = .ok (.iconst 0, 1) := by decide +kernel
theorem dM_twice_45 : decode cM_twice 45 = .ok (.ireturn, 1) := by decide +kernel
theorem dM_twice_46 : decode cM_twice 46 = .ok (.iconst 0, 1) := by decide +kernel
theorem dM_twice_47 : decode cM_twice 47 = .ok (.istore_n 1, 1) := by decide +kernel
theorem dM_twice_48 : decode cM_twice 48 = .ok (.iload_n 1, 1) := by decide +kernel
theorem dM_twice_49 : decode cM_twice 49 = .ok (.aload_n 0, 1) := by decide +kernel
theorem dM_twice_50 : decode cM_twice 50 = .ok (.getfield 87, 3) := by decide +kernel
theorem dM_twice_53 : decode cM_twice 53 = .ok (.if_icmp .ge 186, 3) := by decide +kernel
theorem dM_twice_56 : decode cM_twice 56 = .ok (.aload_n 0, 1) := by decide +kernel
theorem dM_twice_57 : decode cM_twice 57 = .ok (.getfield 44, 3) := by decide +kernel
theorem dM_twice_60 : decode cM_twice 60 = .ok (.iload_n 1, 1) := by decide +kernel
theorem dM_twice_61 : decode cM_twice 61 = .ok (.iaload, 1) := by decide +kernel
theorem dM_twice_62 : decode cM_twice 62 = .ok (.istore_n 2, 1) := by decide +kernel
theorem dM_twice_63 : decode cM_twice 63 = .ok (.aload_n 0, 1) := by decide +kernel
theorem dM_twice_64 : decode cM_twice 64 = .ok (.aload_n 0, 1) := by decide +kernel
theorem dM_twice_65 : decode cM_twice 65 = .ok (.getfield 13, 3) := by decide +kernel
theorem dM_twice_68 : decode cM_twice 68 = .ok (.iload_n 2, 1) := by decide +kernel
theorem dM_twice_69 : decode cM_twice 69 = .ok (.iaload, 1) := by decide +kernel
theorem dM_twice_70 : decode cM_twice 70 = .ok (.aload_n 0, 1) := by decide +kernel
theorem dM_twice_71 : decode cM_twice 71 = .ok (.getfield 17, 3) := by decide +kernel
theorem dM_twice_74 : decode cM_twice 74 = .ok (.iload_n 2, 1) := by decide +kernel
theorem dM_twice_75 : decode cM_twice 75 = .ok (.laload, 1) := by decide +kernel
theorem dM_twice_76 : decode cM_twice 76 = .ok (.invokevirtual 115, 3) := by decide +kernel
theorem dM_twice_79 : decode cM_twice 79 = .ok (.istore_n 3, 1) := by decide +kernel
theorem dM_twice_80 : decode cM_twice 80 = .ok (.aload_n 0, 1) := by decide +kernel
theorem dM_twice_81 : decode cM_twice 81 = .ok (.getfield 65, 3) := by decide +kernel
theorem dM_twice_84 : decode cM_twice 84 = .ok (.iload_n 1, 1) := by decide +kernel
theorem dM_twice_85 : decode cM_twice 85 = .ok (.iload_n 3, 1) := by decide +kernel
theorem dM_twice_86 : decode cM_twice 86 = .ok (.iastore, 1) := by decide +kernel
theorem dM_twice_87 : decode cM_twice 87 = .ok (.iconst 0, 1) := by decide +kernel
theorem dM_twice_88 : decode cM_twice 88 = .ok (.istore 4, 2) := by decide +kernel
theorem dM_twice_90 : decode cM_twice 90 = .ok (.iload 4, 2) := by decide +kernel
theorem dM_twice_92 : decode cM_twice 92 = .ok (.bipush 64, 2) := by decide +kernel
theorem dM_twice_94 : decode cM_twice 94 = .ok (.if_icmp .ge 44, 3) := by decide +kernel
theorem dM_twice_97 : decode cM_twice 97 = .ok (.aload_n 0, 1) := by decide +kernel
theorem dM_twice_98 : decode cM_twice 98 = .ok (.getfield 13, 3) := by decide +kernel
theorem dM_twice_101 : decode cM_twice 101 = .ok (.iload_n 2, 1) := by decide +kernel
theorem dM_twice_102 : decode cM_twice 102 = .ok (.iaload, 1) := by decide +kernel
theorem dM_twice_103 : decode cM_twice 103 = .ok (.bipush 8, 2) := by decide +kernel
theorem dM_twice_105 : decode cM_twice 105 = .ok (.if_icmp .ne 33, 3) := by decide +kernel
theorem dM_twice_108 : decode cM_twice 108 = .ok (.aload_n 0, 1) := by decide +kernel
theorem dM_twice_109 : decode cM_twice 109 = .ok (.getfield 27, 3) := by decide +kernel
theorem dM_twice_112 : decode cM_twice 112 = .ok (.bipush 64, 2) := by decide +kernel
theorem dM_twice_114 : decode cM_twice 114 = .ok (.iload_n 3, 1) := by decide +kernel
theorem dM_twice_115 : decode cM_twice 115 = .ok (.imul, 1) := by decide +kernel
theorem dM_twice_116 : decode cM_twice 116 = .ok (.iload 4, 2) := by decide +kernel
theorem dM_twice_118 : decode cM_twice 118 = .ok (.iadd, 1) := by decide +kernel
theorem dM_twice_119 : decode cM_twice 119 = .ok (.aload_n 0, 1) := by decide +kernel
theorem dM_twice_120 : decode cM_twice 120 = .ok (.getfield 27, 3) := by decide +kernel
theorem dM_twice_123 : decode cM_twice 123 = .ok (.bipush 64, 2) := by decide +kernel
theorem dM_twice_125 : decode cM_twice 125 = .ok (.iload_n 2, 1) := by decide +kernel
theorem dM_twice_126 : decode cM_twice 126 = .ok (.imul, 1) := by decide +kernel
theorem dM_twice_127 : decode cM_twice 127 = .ok (.iload 4, 2) := by decide +kernel
theorem dM_twice_129 : decode cM_twice 129 = .ok (.iadd, 1) := by decide +kernel
theorem dM_twice_130 : decode cM_twice 130 = .ok (.baload, 1) := by decide +kernel
theorem dM_twice_131 : decode cM_twice 131 = .ok (.bastore, 1) := by decide +kernel
theorem dM_twice_132 : decode cM_twice 132 = .ok (.iinc 4 1, 3) := by decide +kernel
theorem dM_twice_135 : decode cM_twice 135 = .ok (.goto (-45), 3) := by decide +kernel
theorem dM_twice_138 : decode cM_twice 138 = .ok (.aload_n 0, 1) := by decide +kernel
theorem dM_twice_139 : decode cM_twice 139 = .ok (.getfield 47, 3) := by decide +kernel
theorem dM_twice_142 : decode cM_twice 142 = .ok (.iload_n 1, 1) := by decide +kernel
theorem dM_twice_143 : decode cM_twice 143 = .ok (.iaload, 1) := by decide +kernel
theorem dM_twice_144 : decode cM_twice 144 = .ok (.ifCond .lt 89, 3) := by decide +kernel
theorem dM_twice_147 : decode cM_twice 147 = .ok (.aload_n 0, 1) := by decide +kernel
theorem dM_twice_148 : decode cM_twice 148 = .ok (.getfield 65, 3) := by decide +kernel
theorem dM_twice_151 : decode cM_twice 151 = .ok (.aload_n 0, 1) := by decide +kernel
theorem dM_twice_152 : decode cM_twice 152 = .ok (.getfield 47, 3) := by decide +kernel
theorem dM_twice_155 : decode cM_twice 155 = .ok (.iload_n 1, 1) := by decide +kernel
theorem dM_twice_156 : decode cM_twice 156 = .ok (.iaload, 1) := by decide +kernel
theorem dM_twice_157 : decode cM_twice 157 = .ok (.iaload, 1) := by decide +kernel
theorem dM_twice_158 : decode cM_twice 158 = .ok (.istore 4, 2) := by decide +kernel
theorem dM_twice_160 : decode cM_twice 160 = .ok (.aload_n 0, 1) := by decide +kernel
theorem dM_twice_161 : decode cM_twice 161 = .ok (.getfield 21, 3) := by decide +kernel
theorem dM_twice_164 : decode cM_twice 164 = .ok (.aload_n 0, 1) := by decide +kernel
theorem dM_twice_165 : decode cM_twice 165 = .ok (.getfield 44, 3) := by decide +kernel
theorem dM_twice_168 : decode cM_twice 168 = .ok (.aload_n 0, 1) := by decide +kernel
theorem dM_twice_169 : decode cM_twice 169 = .ok (.getfield 47, 3) := by decide +kernel
theorem dM_twice_172 : decode cM_twice 172 = .ok (.iload_n 1, 1) := by decide +kernel
theorem dM_twice_173 : decode cM_twice 173 = .ok (.iaload, 1) := by decide +kernel
theorem dM_twice_174 : decode cM_twice 174 = .ok (.iaload, 1) := by decide +kernel
theorem dM_twice_175 : decode cM_twice 175 = .ok (.iaload, 1) := by decide +kernel
theorem dM_twice_176 : decode cM_twice 176 = .ok (.iload_n 2, 1) := by decide +kernel
theorem dM_twice_177 : decode cM_twice 177 = .ok (.if_icmp .eq 7, 3) := by decide +kernel
theorem dM_twice_180 : decode cM_twice 180 = .ok (.iconst 1, 1) := by decide +kernel
theorem dM_twice_181 : decode cM_twice 181 = .ok (.goto 4, 3) := by decide +kernel
theorem dM_twice_184 : decode cM_twice 184 = .ok (.iconst 0, 1) := by decide +kernel
theorem dM_twice_185 : decode cM_twice 185 = .ok (.istore 5, 2) := by decide +kernel
theorem dM_twice_187 : decode cM_twice 187 = .ok (.aload_n 0, 1) := by decide +kernel
theorem dM_twice_188 : decode cM_twice 188 = .ok (.getfield 21, 3) := by decide +kernel
theorem dM_twice_191 : decode cM_twice 191 = .ok (.iload 4, 2) := by decide +kernel
theorem dM_twice_193 : decode cM_twice 193 = .ok (.iload 5, 2) := by decide +kernel
theorem dM_twice_195 : decode cM_twice 195 = .ok (.ifCond .eq 13, 3) := by decide +kernel
theorem dM_twice_198 : decode cM_twice 198 = .ok (.aload_n 0, 1) := by decide +kernel
theorem dM_twice_199 : decode cM_twice 199 = .ok (.getfield 21, 3) := by decide +kernel
theorem dM_twice_202 : decode cM_twice 202 = .ok (.iload 4, 2) := by decide +kernel
theorem dM_twice_204 : decode cM_twice 204 = .ok (.iaload, 1) := by decide +kernel
theorem dM_twice_205 : decode cM_twice 205 = .ok (.goto 4, 3) := by decide +kernel
theorem dM_twice_208 : decode cM_twice 208 = .ok (.iload_n 3, 1) := by decide +kernel
theorem dM_twice_209 : decode cM_twice 209 = .ok (.iastore, 1) := by decide +kernel
theorem dM_twice_210 : decode cM_twice 210 = .ok (.aload_n 0, 1) := by decide +kernel
theorem dM_twice_211 : decode cM_twice 211 = .ok (.getfield 24, 3) := by decide +kernel
theorem dM_twice_214 : decode cM_twice 214 = .ok (.iload 4, 2) := by decide +kernel
theorem dM_twice_216 : decode cM_twice 216 = .ok (.iload 5, 2) := by decide +kernel
theorem dM_twice_218 : decode cM_twice 218 = .ok (.ifCond .eq 7, 3) := by decide +kernel
theorem dM_twice_221 : decode cM_twice 221 = .ok (.iload_n 3, 1) := by decide +kernel
theorem dM_twice_222 : decode cM_twice 222 = .ok (.goto 10, 3) := by decide +kernel
theorem dM_twice_225 : decode cM_twice 225 = .ok (.aload_n 0, 1) := by decide +kernel
theorem dM_twice_226 : decode cM_twice 226 = .ok (.getfield 24, 3) := by decide +kernel
theorem dM_twice_229 : decode cM_twice 229 = .ok (.iload 4, 2) := by decide +kernel
theorem dM_twice_231 : decode cM_twice 231 = .ok (.iaload, 1) := by decide +kernel
theorem dM_twice_232 : decode cM_twice 232 = .ok (.iastore, 1) := by decide +kernel
theorem dM_twice_233 : decode cM_twice 233 = .ok (.iinc 1 1, 3) := by decide +kernel
theorem dM_twice_236 : decode cM_twice 236 = .ok (.goto (-188), 3) := by decide +kernel
theorem dM_twice_239 : decode cM_twice 239 = .ok (.aload_n 0, 1) := by decide +kernel
theorem dM_twice_240 : decode cM_twice 240 = .ok (.getfield 31, 3) := by decide +kernel
theorem dM_twice_243 : decode cM_twice 243 = .ok (.aload_n 0, 1) := by decide +kernel
theorem dM_twice_244 : decode cM_twice 244 = .ok (.getfield 94, 3) := by decide +kernel
theorem dM_twice_247 : decode cM_twice 247 = .ok (.aload_n 0, 1) := by decide +kernel
theorem dM_twice_248 : decode cM_twice 248 = .ok (.getfield 65, 3) := by decide +kernel
theorem dM_twice_251 : decode cM_twice 251 = .ok (.iconst 0, 1) := by decide +kernel
theorem dM_twice_252 : decode cM_twice 252 = .ok (.iaload, 1) := by decide +kernel
theorem dM_twice_253 : decode cM_twice 253 = .ok (.iastore, 1) := by decide +kernel
theorem dM_twice_254 : decode cM_twice 254 = .ok (.aload_n 0, 1) := by decide +kernel
theorem dM_twice_255 : decode cM_twice 255 = .ok (.dup, 1) := by decide +kernel
theorem dM_twice_256 : decode cM_twice 256 = .ok (.getfield 94, 3) := by decide +kernel
theorem dM_twice_259 : decode cM_twice 259 = .ok (.iconst 1, 1) := by decide +kernel
theorem dM_twice_260 : decode cM_twice 260 = .ok (.iadd, 1) := by decide +kernel
theorem dM_twice_261 : decode cM_twice 261 = .ok (.putfield 94, 3) := by decide +kernel
theorem dM_twice_264 : decode cM_twice 264 = .ok (.iconst 1, 1) := by decide +kernel
theorem dM_twice_265 : decode cM_twice 265 = .ok (.ireturn, 1) := by decide +kernel
theorem dM_split_0 : decode cM_split 0 = .ok (.aload_n 0, 1) := by decide +kernel
theorem dM_split_1 : decode cM_split 1 = .ok (.iconst 0, 1) := by decide +kernel
theorem dM_split_2 : decode cM_split 2 = .ok (.putfield 77, 3) := by decide +kernel
theorem dM_split_5 : decode cM_split 5 = .ok (.aload_n 0, 1) := by decide +kernel
theorem dM_split_6 : decode cM_split 6 = .ok (.getfield 94, 3) := by decide +kernel
theorem dM_split_9 : decode cM_split 9 = .ok (.ifCond .ne 7, 3) := by decide +kernel
theorem dM_split_12 : decode cM_split 12 = .ok (.iconst 0, 1) := by decide +kernel
theorem dM_split_13 : decode cM_split 13 = .ok (.goto 14, 3) := by decide +kernel
theorem dM_split_16 : decode cM_split 16 = .ok (.aload_n 0, 1) := by decide +kernel
theorem dM_split_17 : decode cM_split 17 = .ok (.getfield 31, 3) := by decide +kernel
theorem dM_split_20 : decode cM_split 20 = .ok (.aload_n 0, 1) := by decide +kernel
theorem dM_split_21 : decode cM_split 21 = .ok (.getfield 94, 3) := by decide +kernel
theorem dM_split_24 : decode cM_split 24 = .ok (.iconst 1, 1) := by decide +kernel
theorem dM_split_25 : decode cM_split 25 = .ok (.isub, 1) := by decide +kernel
theorem dM_split_26 : decode cM_split 26 = .ok (.iaload, 1) := by decide +kernel
theorem dM_split_27 : decode cM_split 27 = .ok (.istore_n 1, 1) := by decide +kernel
theorem dM_split_28 : decode cM_split 28 = .ok (.aload_n 0, 1) := by decide +kernel
theorem dM_split_29 : decode cM_split 29 = .ok (.getfield 94, 3) := by decide +kernel
theorem dM_split_32 : decode cM_split 32 = .ok (.ifCond .eq 15, 3) := by decide +kernel
theorem dM_split_35 : decode cM_split 35 = .ok (.aload_n 0, 1) := by decide +kernel
theorem dM_split_36 : decode cM_split 36 = .ok (.getfield 13, 3) := by decide +kernel
theorem dM_split_39 : decode cM_split 39 = .ok (.iload_n 1, 1) := by decide +kernel
theorem dM_split_40 : decode cM_split 40 = .ok (.iaload, 1) := by decide +kernel
theorem dM_split_41 : decode cM_split 41 = .ok (.invokestatic 109, 3) := by decide +kernel
theorem dM_split_44 : decode cM_split 44 = .ok (.ifCond .ne 5, 3) := by decide +kernel
theorem dM_split_47 : decode cM_split 47 = .ok (.iconst (-1), 1) := by decide +kernel
theorem dM_split_48 : decode cM_split 48 = .ok (.ireturn, 1) := by decide +kernel
theorem dM_split_49 : decode cM_split 49 = .ok (.aload_n 0, 1) := by decide +kernel
theorem dM_split_50 : decode cM_split 50 = .ok (.getfield 13, 3) := by decide +kernel
theorem dM_split_53 : decode cM_split 53 = .ok (.iload_n 1, 1) := by decide +kernel
theorem dM_split_54 : decode cM_split 54 = .ok (.iaload, 1) := by decide +kernel
theorem dM_split_55 : decode cM_split 55 = .ok (.invokestatic 109, 3) := by decide +kernel
theorem dM_split_58 : decode cM_split 58 = .ok (.istore_n 2, 1) := by decide +kernel
theorem dM_split_59 : decode cM_split 59 = .ok (.aload_n 0, 1) := by decide +kernel
theorem dM_split_60 : decode cM_split 60 = .ok (.getfield 31, 3) := by decide +kernel
theorem dM_split_63 : decode cM_split 63 = .ok (.aload_n 0, 1) := by decide +kernel
theorem dM_split_64 : decode cM_split 64 = .ok (.getfield 94, 3) := by decide +kernel
theorem dM_split_67 : decode cM_split 67 = .ok (.iconst 1, 1) := by decide +kernel
theorem dM_split_68 : decode cM_split 68 = .ok (.isub, 1) := by decide +kernel
theorem dM_split_69 : decode cM_split 69 = .ok (.aload_n 0, 1) := by decide +kernel
theorem dM_split_70 : decode cM_split 70 = .ok (.getfield 21, 3) := by decide +kernel
theorem dM_split_73 : decode cM_split 73 = .ok (.iload_n 1, 1) := by decide +kernel
theorem dM_split_74 : decode cM_split 74 = .ok (.iaload, 1) := by decide +kernel
theorem dM_split_75 : decode cM_split 75 = .ok (.iastore, 1) := by decide +kernel
theorem dM_split_76 : decode cM_split 76 = .ok (.iload_n 2, 1) := by decide +kernel
theorem dM_split_77 : decode cM_split 77 = .ok (.iconst 2, 1) := by decide +kernel
theorem dM_split_78 : decode cM_split 78 = .ok (.if_icmp .ne 28, 3) := by decide +kernel
theorem dM_split_81 : decode cM_split 81 = .ok (.aload_n 0, 1) := by decide +kernel
theorem dM_split_82 : decode cM_split 82 = .ok (.getfield 31, 3) := by decide +kernel
theorem dM_split_85 : decode cM_split 85 = .ok (.aload_n 0, 1) := by decide +kernel
theorem dM_split_86 : decode cM_split 86 = .ok (.getfield 94, 3) := by decide +kernel
theorem dM_split_89 : decode cM_split 89 = .ok (.aload_n 0, 1) := by decide +kernel
theorem dM_split_90 : decode cM_split 90 = .ok (.getfield 24, 3) := by decide +kernel
theorem dM_split_93 : decode cM_split 93 = .ok (.iload_n 1, 1) := by decide +kernel
theorem dM_split_94 : decode cM_split 94 = .ok (.iaload, 1) := by decide +kernel
theorem dM_split_95 : decode cM_split 95 = .ok (.iastore, 1) := by decide +kernel
theorem dM_split_96 : decode cM_split 96 = .ok (.aload_n 0, 1) := by decide +kernel
theorem dM_split_97 : decode cM_split 97 = .ok (.dup, 1) := by decide +kernel
theorem dM_split_98 : decode cM_split 98 = .ok (.getfield 94, 3) := by decide +kernel
theorem dM_split_101 : decode cM_split 101 = .ok (.iconst 1, 1) := by decide +kernel
theorem dM_split_102 : decode cM_split 102 = .ok (.iadd, 1) := by decide +kernel
theorem dM_split_103 : decode cM_split 103 = .ok (.putfield 94, 3) := by decide +kernel
theorem dM_split_106 : decode cM_split 106 = .ok (.aload_n 0, 1) := by decide +kernel
theorem dM_split_107 : decode cM_split 107 = .ok (.iload_n 1, 1) := by decide +kernel
theorem dM_split_108 : decode cM_split 108 = .ok (.invokevirtual 125, 3) := by decide +kernel
theorem dM_split_111 : decode cM_split 111 = .ok (.iload_n 2, 1) := by decide +kernel
theorem dM_split_112 : decode cM_split 112 = .ok (.ireturn, 1) := by decide +kernel
theorem dM_lengthU_0 : decode cM_lengthU 0 = .ok (.iconst 1, 1) := by decide +kernel
theorem dM_lengthU_1 : decode cM_lengthU 1 = .ok (.istore_n 3, 1) := by decide +kernel
theorem dM_lengthU_2 : decode cM_lengthU 2 = .ok (.lload_n 1, 1) := by decide +kernel
theorem dM_lengthU_3 : decode cM_lengthU 3 = .ok (.lstore 4, 2) := by decide +kernel
theorem dM_lengthU_5 : decode cM_lengthU 5 = .ok (.lload 4, 2) := by decide +kernel
theorem dM_lengthU_7 : decode cM_lengthU 7 = .ok (.ldc2_w 128, 3) := by decide +kernel
theorem dM_lengthU_10 : decode cM_lengthU 10 = .ok (.lcmp, 1) := by decide +kernel
theorem dM_lengthU_11 : decode cM_lengthU 11 = .ok (.ifCond .le 17, 3) := by decide +kernel
theorem dM_lengthU_14 : decode cM_lengthU 14 = .ok (.iinc 3 1, 3) := by decide +kernel
theorem dM_lengthU_17 : decode cM_lengthU 17 = .ok (.lload 4, 2) := by decide +kernel
theorem dM_lengthU_19 : decode cM_lengthU 19 = .ok (.ldc2_w 130, 3) := by decide +kernel
theorem dM_lengthU_22 : decode cM_lengthU 22 = .ok (.ldiv, 1) := by decide +kernel
theorem dM_lengthU_23 : decode cM_lengthU 23 = .ok (.lstore 4, 2) := by decide +kernel
theorem dM_lengthU_25 : decode cM_lengthU 25 = .ok (.goto (-20), 3) := by decide +kernel
theorem dM_lengthU_28 : decode cM_lengthU 28 = .ok (.iload_n 3, 1) := by decide +kernel
theorem dM_lengthU_29 : decode cM_lengthU 29 = .ok (.ireturn, 1) := by decide +kernel
theorem dM_lengthS_0 : decode cM_lengthS 0 = .ok (.iconst 1, 1) := by decide +kernel
theorem dM_lengthS_1 : decode cM_lengthS 1 = .ok (.istore_n 3, 1) := by decide +kernel
theorem dM_lengthS_2 : decode cM_lengthS 2 = .ok (.lload_n 1, 1) := by decide +kernel
theorem dM_lengthS_3 : decode cM_lengthS 3 = .ok (.lstore 4, 2) := by decide +kernel
theorem dM_lengthS_5 : decode cM_lengthS 5 = .ok (.lload 4, 2) := by decide +kernel
theorem dM_lengthS_7 : decode cM_lengthS 7 = .ok (.ldc2_w 132, 3) := by decide +kernel
theorem dM_lengthS_10 : decode cM_lengthS 10 = .ok (.lcmp, 1) := by decide +kernel
theorem dM_lengthS_11 : decode cM_lengthS 11 = .ok (.ifCond .lt 12, 3) := by decide +kernel
theorem dM_lengthS_14 : decode cM_lengthS 14 = .ok (.lload 4, 2) := by decide +kernel
theorem dM_lengthS_16 : decode cM_lengthS 16 = .ok (.ldc2_w 134, 3) := by decide +kernel
theorem dM_lengthS_19 : decode cM_lengthS 19 = .ok (.lcmp, 1) := by decide +kernel
theorem dM_lengthS_20 : decode cM_lengthS 20 = .ok (.ifCond .le 16, 3) := by decide +kernel
theorem dM_lengthS_23 : decode cM_lengthS 23 = .ok (.iinc 3 1, 3) := by decide +kernel
theorem dM_lengthS_26 : decode cM_lengthS 26 = .ok (.lload 4, 2) := by decide +kernel
theorem dM_lengthS_28 : decode cM_lengthS 28 = .ok (.bipush 7, 2) := by decide +kernel
theorem dM_lengthS_30 : decode cM_lengthS 30 = .ok (.lshr, 1) := by decide +kernel
theorem dM_lengthS_31 : decode cM_lengthS 31 = .ok (.lstore 4, 2) := by decide +kernel
theorem dM_lengthS_33 : decode cM_lengthS 33 = .ok (.goto (-28), 3) := by decide +kernel
theorem dM_lengthS_36 : decode cM_lengthS 36 = .ok (.iload_n 3, 1) := by decide +kernel
theorem dM_lengthS_37 : decode cM_lengthS 37 = .ok (.ireturn, 1) := by decide +kernel
theorem dM_lengthOf_0 : decode cM_lengthOf 0 = .ok (.aload_n 0, 1) := by decide +kernel
theorem dM_lengthOf_1 : decode cM_lengthOf 1 = .ok (.getfield 13, 3) := by decide +kernel
theorem dM_lengthOf_4 : decode cM_lengthOf 4 = .ok (.iload_n 1, 1) := by decide +kernel
theorem dM_lengthOf_5 : decode cM_lengthOf 5 = .ok (.iaload, 1) := by decide +kernel
theorem dM_lengthOf_6 : decode cM_lengthOf 6 = .ok (.istore_n 2, 1) := by decide +kernel
theorem dM_lengthOf_7 : decode cM_lengthOf 7 = .ok (.iconst 1, 1) := by decide +kernel
theorem dM_lengthOf_8 : decode cM_lengthOf 8 = .ok (.iload_n 2, 1) := by decide +kernel
theorem dM_lengthOf_9 : decode cM_lengthOf 9 = .ok (.ifCond .ne 16, 3) := by decide +kernel
theorem dM_lengthOf_12 : decode cM_lengthOf 12 = .ok (.aload_n 0, 1) := by decide +kernel
theorem dM_lengthOf_13 : decode cM_lengthOf 13 = .ok (.aload_n 0, 1) := by decide +kernel
theorem dM_lengthOf_14 : decode cM_lengthOf 14 = .ok (.getfield 17, 3) := by decide +kernel
theorem dM_lengthOf_17 : decode cM_lengthOf 17 = .ok (.iload_n 1, 1) := by decide +kernel
theorem dM_lengthOf_18 : decode cM_lengthOf 18 = .ok (.laload, 1) := by decide +kernel
theorem dM_lengthOf_19 : decode cM_lengthOf 19 = .ok (.invokevirtual 136, 3) := by decide +kernel
theorem dM_lengthOf_22 : decode cM_lengthOf 22 = .ok (.goto 57, 3) := by decide +kernel
theorem dM_lengthOf_25 : decode cM_lengthOf 25 = .ok (.iload_n 2, 1) := by decide +kernel
theorem dM_lengthOf_26 : decode cM_lengthOf 26 = .ok (.bipush 7, 2) := by decide +kernel
theorem dM_lengthOf_28 : decode cM_lengthOf 28 = .ok (.if_icmp .ne 16, 3) := by decide +kernel
theorem dM_lengthOf_31 : decode cM_lengthOf 31 = .ok (.aload_n 0, 1) := by decide +kernel
theorem dM_lengthOf_32 : decode cM_lengthOf 32 = .ok (.aload_n 0, 1) := by decide +kernel
theorem dM_lengthOf_33 : decode cM_lengthOf 33 = .ok (.getfield 17, 3) := by decide +kernel
theorem dM_lengthOf_36 : decode cM_lengthOf 36 = .ok (.iload_n 1, 1) := by decide +kernel
theorem dM_lengthOf_37 : decode cM_lengthOf 37 = .ok (.laload, 1) := by decide +kernel
theorem dM_lengthOf_38 : decode cM_lengthOf 38 = .ok (.invokevirtual 140, 3) := by decide +kernel
theorem dM_lengthOf_41 : decode cM_lengthOf 41 = .ok (.goto 38, 3) := by decide +kernel
theorem dM_lengthOf_44 : decode cM_lengthOf 44 = .ok (.iload_n 2, 1) := by decide +kernel
theorem dM_lengthOf_45 : decode cM_lengthOf 45 = .ok (.bipush 6, 2) := by decide +kernel
theorem dM_lengthOf_47 : decode cM_lengthOf 47 = .ok (.if_icmp .eq 9, 3) := by decide +kernel
theorem dM_lengthOf_50 : decode cM_lengthOf 50 = .ok (.iload_n 2, 1) := by decide +kernel
theorem dM_lengthOf_51 : decode cM_lengthOf 51 = .ok (.bipush 9, 2) := by decide +kernel
theorem dM_lengthOf_53 : decode cM_lengthOf 53 = .ok (.if_icmp .ne 7, 3) := by decide +kernel
theorem dM_lengthOf_56 : decode cM_lengthOf 56 = .ok (.iconst 1, 1) := by decide +kernel
theorem dM_lengthOf_57 : decode cM_lengthOf 57 = .ok (.goto 22, 3) := by decide +kernel
theorem dM_lengthOf_60 : decode cM_lengthOf 60 = .ok (.iload_n 2, 1) := by decide +kernel
theorem dM_lengthOf_61 : decode cM_lengthOf 61 = .ok (.bipush 8, 2) := by decide +kernel
theorem dM_lengthOf_63 : decode cM_lengthOf 63 = .ok (.if_icmp .ne 15, 3) := by decide +kernel
theorem dM_lengthOf_66 : decode cM_lengthOf 66 = .ok (.iconst 1, 1) := by decide +kernel
theorem dM_lengthOf_67 : decode cM_lengthOf 67 = .ok (.aload_n 0, 1) := by decide +kernel
theorem dM_lengthOf_68 : decode cM_lengthOf 68 = .ok (.getfield 17, 3) := by decide +kernel
theorem dM_lengthOf_71 : decode cM_lengthOf 71 = .ok (.iload_n 1, 1) := by decide +kernel
theorem dM_lengthOf_72 : decode cM_lengthOf 72 = .ok (.laload, 1) := by decide +kernel
theorem dM_lengthOf_73 : decode cM_lengthOf 73 = .ok (.l2i, 1) := by decide +kernel
theorem dM_lengthOf_74 : decode cM_lengthOf 74 = .ok (.iadd, 1) := by decide +kernel
theorem dM_lengthOf_75 : decode cM_lengthOf 75 = .ok (.goto 4, 3) := by decide +kernel
theorem dM_lengthOf_78 : decode cM_lengthOf 78 = .ok (.iconst 0, 1) := by decide +kernel
theorem dM_lengthOf_79 : decode cM_lengthOf 79 = .ok (.iadd, 1) := by decide +kernel
theorem dM_lengthOf_80 : decode cM_lengthOf 80 = .ok (.ireturn, 1) := by decide +kernel
theorem dM_lengthOfTerm_0 : decode cM_lengthOfTerm 0 = .ok (.aload_n 0, 1) := by decide +kernel
theorem dM_lengthOfTerm_1 : decode cM_lengthOfTerm 1 = .ok (.iload_n 1, 1) := by decide +kernel
theorem dM_lengthOfTerm_2 : decode cM_lengthOfTerm 2 = .ok (.invokevirtual 90, 3) := by decide +kernel
theorem dM_lengthOfTerm_5 : decode cM_lengthOfTerm 5 = .ok (.iconst 0, 1) := by decide +kernel
theorem dM_lengthOfTerm_6 : decode cM_lengthOfTerm 6 = .ok (.istore_n 2, 1) := by decide +kernel
theorem dM_lengthOfTerm_7 : decode cM_lengthOfTerm 7 = .ok (.iconst 0, 1) := by decide +kernel
theorem dM_lengthOfTerm_8 : decode cM_lengthOfTerm 8 = .ok (.istore_n 3, 1) := by decide +kernel
theorem dM_lengthOfTerm_9 : decode cM_lengthOfTerm 9 = .ok (.iload_n 3, 1) := by decide +kernel
theorem dM_lengthOfTerm_10 : decode cM_lengthOfTerm 10 = .ok (.aload_n 0, 1) := by decide +kernel
theorem dM_lengthOfTerm_11 : decode cM_lengthOfTerm 11 = .ok (.getfield 87, 3) := by decide +kernel
theorem dM_lengthOfTerm_14 : decode cM_lengthOfTerm 14 = .ok (.if_icmp .ge 22, 3) := by decide +kernel
theorem dM_lengthOfTerm_17 : decode cM_lengthOfTerm 17 = .ok (.iload_n 2, 1) := by decide +kernel
theorem dM_lengthOfTerm_18 : decode cM_lengthOfTerm 18 = .ok (.aload_n 0, 1) := by decide +kernel
theorem dM_lengthOfTerm_19 : decode cM_lengthOfTerm 19 = .ok (.aload_n 0, 1) := by decide +kernel
theorem dM_lengthOfTerm_20 : decode cM_lengthOfTerm 20 = .ok (.getfield 44, 3) := by decide +kernel
theorem dM_lengthOfTerm_23 : decode cM_lengthOfTerm 23 = .ok (.iload_n 3, 1) := by decide +kernel
theorem dM_lengthOfTerm_24 : decode cM_lengthOfTerm 24 = .ok (.iaload, 1) := by decide +kernel
theorem dM_lengthOfTerm_25 : decode cM_lengthOfTerm 25 = .ok (.invokevirtual 143, 3) := by decide +kernel
theorem dM_lengthOfTerm_28 : decode cM_lengthOfTerm 28 = .ok (.iadd, 1) := by decide +kernel
theorem dM_lengthOfTerm_29 : decode cM_lengthOfTerm 29 = .ok (.istore_n 2, 1) := by decide +kernel
theorem dM_lengthOfTerm_30 : decode cM_lengthOfTerm 30 = .ok (.iinc 3 1, 3) := by decide +kernel
theorem dM_lengthOfTerm_33 : decode cM_lengthOfTerm 33 = .ok (.goto (-24), 3) := by decide +kernel
theorem dM_lengthOfTerm_36 : decode cM_lengthOfTerm 36 = .ok (.iload_n 2, 1) := by decide +kernel
theorem dM_lengthOfTerm_37 : decode cM_lengthOfTerm 37 = .ok (.ireturn, 1) := by decide +kernel
theorem dM_lay_0 : decode cM_lay 0 = .ok (.aload_n 0, 1) := by decide +kernel
theorem dM_lay_1 : decode cM_lay 1 = .ok (.getfield 34, 3) := by decide +kernel
theorem dM_lay_4 : decode cM_lay 4 = .ok (.aload_n 0, 1) := by decide +kernel
theorem dM_lay_5 : decode cM_lay 5 = .ok (.getfield 146, 3) := by decide +kernel
theorem dM_lay_8 : decode cM_lay 8 = .ok (.lload_n 1, 1) := by decide +kernel
theorem dM_lay_9 : decode cM_lay 9 = .ok (.l2i, 1) := by decide +kernel
theorem dM_lay_10 : decode cM_lay 10 = .ok (.i2b, 1) := by decide +kernel
theorem dM_lay_11 : decode cM_lay 11 = .ok (.bastore, 1) := by decide +kernel
theorem dM_lay_12 : decode cM_lay 12 = .ok (.aload_n 0, 1) := by decide +kernel
theorem dM_lay_13 : decode cM_lay 13 = .ok (.dup, 1) := by decide +kernel
theorem dM_lay_14 : decode cM_lay 14 = .ok (.getfield 146, 3) := by decide +kernel
theorem dM_lay_17 : decode cM_lay 17 = .ok (.iconst 1, 1) := by decide +kernel
theorem dM_lay_18 : decode cM_lay 18 = .ok (.iadd, 1) := by decide +kernel
theorem dM_lay_19 : decode cM_lay 19 = .ok (.putfield 146, 3) := by decide +kernel
theorem dM_lay_22 : decode cM_lay 22 = .ok (.return_, 1) := by decide +kernel
theorem dM_layNode_0 : decode cM_layNode 0 = .ok (.aload_n 0, 1) := by decide +kernel
theorem dM_layNode_1 : decode cM_layNode 1 = .ok (.getfield 13, 3) := by decide +kernel
theorem dM_layNode_4 : decode cM_layNode 4 = .ok (.iload_n 1, 1) := by decide +kernel
theorem dM_layNode_5 : decode cM_layNode 5 = .ok (.iaload, 1) := by decide +kernel
theorem dM_layNode_6 : decode cM_layNode 6 = .ok (.istore_n 2, 1) := by decide +kernel
theorem dM_layNode_7 : decode cM_layNode 7 = .ok (.aload_n 0, 1) := by decide +kernel
theorem dM_layNode_8 : decode cM_layNode 8 = .ok (.getfield 17, 3) := by decide +kernel
theorem dM_layNode_11 : decode cM_layNode 11 = .ok (.iload_n 1, 1) := by decide +kernel
theorem dM_layNode_12 : decode cM_layNode 12 = .ok (.laload, 1) := by decide +kernel
theorem dM_layNode_13 : decode cM_layNode 13 = .ok (.lstore_n 3, 1) := by decide +kernel
theorem dM_layNode_14 : decode cM_layNode 14 = .ok (.aload_n 0, 1) := by decide +kernel
theorem dM_layNode_15 : decode cM_layNode 15 = .ok (.iload_n 2, 1) := by decide +kernel
theorem dM_layNode_16 : decode cM_layNode 16 = .ok (.i2l, 1) := by decide +kernel
theorem dM_layNode_17 : decode cM_layNode 17 = .ok (.invokevirtual 149, 3) := by decide +kernel
theorem dM_layNode_20 : decode cM_layNode 20 = .ok (.iload_n 2, 1) := by decide +kernel
theorem dM_layNode_21 : decode cM_layNode 21 = .ok (.ifCond .ne 41, 3) := by decide +kernel
theorem dM_layNode_24 : decode cM_layNode 24 = .ok (.lload_n 3, 1) := by decide +kernel
theorem dM_layNode_25 : decode cM_layNode 25 = .ok (.ldc2_w 128, 3) := by decide +kernel
theorem dM_layNode_28 : decode cM_layNode 28 = .ok (.lcmp, 1) := by decide +kernel
theorem dM_layNode_29 : decode cM_layNode 29 = .ok (.ifCond .le 25, 3) := by decide +kernel
theorem dM_layNode_32 : decode cM_layNode 32 = .ok (.aload_n 0, 1) := by decide +kernel
theorem dM_layNode_33 : decode cM_layNode 33 = .ok (.lload_n 3, 1) := by decide +kernel
theorem dM_layNode_34 : decode cM_layNode 34 = .ok (.ldc2_w 130, 3) := by decide +kernel
theorem dM_layNode_37 : decode cM_layNode 37 = .ok (.lrem, 1) := by decide +kernel
theorem dM_layNode_38 : decode cM_layNode 38 = .ok (.ldc2_w 130, 3) := by decide +kernel
theorem dM_layNode_41 : decode cM_layNode 41 = .ok (.ladd, 1) := by decide +kernel
theorem dM_layNode_42 : decode cM_layNode 42 = .ok (.invokevirtual 149, 3) := by decide +kernel
theorem dM_layNode_45 : decode cM_layNode 45 = .ok (.lload_n 3, 1) := by decide +kernel
theorem dM_layNode_46 : decode cM_layNode 46 = .ok (.ldc2_w 130, 3) := by decide +kernel
theorem dM_layNode_49 : decode cM_layNode 49 = .ok (.ldiv, 1) := by decide +kernel
theorem dM_layNode_50 : decode cM_layNode 50 = .ok (.lstore_n 3, 1) := by decide +kernel
theorem dM_layNode_51 : decode cM_layNode 51 = .ok (.goto (-27), 3) := by decide +kernel
theorem dM_layNode_54 : decode cM_layNode 54 = .ok (.aload_n 0, 1) := by decide +kernel
theorem dM_layNode_55 : decode cM_layNode 55 = .ok (.lload_n 3, 1) := by decide +kernel
theorem dM_layNode_56 : decode cM_layNode 56 = .ok (.invokevirtual 149, 3) := by decide +kernel
theorem dM_layNode_59 : decode cM_layNode 59 = .ok (.goto 81, 3) := by decide +kernel
theorem dM_layNode_62 : decode cM_layNode 62 = .ok (.iload_n 2, 1) := by decide +kernel
theorem dM_layNode_63 : decode cM_layNode 63 = .ok (.bipush 7, 2) := by decide +kernel
theorem dM_layNode_65 : decode cM_layNode 65 = .ok (.if_icmp .ne 52, 3) := by decide +kernel
theorem dM_layNode_68 : decode cM_layNode 68 = .ok (.lload_n 3, 1) := by decide +kernel
theorem dM_layNode_69 : decode cM_layNode 69 = .ok (.ldc2_w 132, 3) := by decide +kernel
theorem dM_layNode_72 : decode cM_layNode 72 = .ok (.lcmp, 1) := by decide +kernel
theorem dM_layNode_73 : decode cM_layNode 73 = .ok (.ifCond .lt 11, 3) := by decide +kernel
theorem dM_layNode_76 : decode cM_layNode 76 = .ok (.lload_n 3, 1) := by decide +kernel
theorem dM_layNode_77 : decode cM_layNode 77 = .ok (.ldc2_w 134, 3) := by decide +kernel
theorem dM_layNode_80 : decode cM_layNode 80 = .ok (.lcmp, 1) := by decide +kernel
theorem dM_layNode_81 : decode cM_layNode 81 = .ok (.ifCond .le 24, 3) := by decide +kernel
theorem dM_layNode_84 : decode cM_layNode 84 = .ok (.aload_n 0, 1) := by decide +kernel
theorem dM_layNode_85 : decode cM_layNode 85 = .ok (.lload_n 3, 1) := by decide +kernel
theorem dM_layNode_86 : decode cM_layNode 86 = .ok (.ldc2_w 128, 3) := by decide +kernel
theorem dM_layNode_89 : decode cM_layNode 89 = .ok (.land, 1) := by decide +kernel
theorem dM_layNode_90 : decode cM_layNode 90 = .ok (.ldc2_w 130, 3) := by decide +kernel
theorem dM_layNode_93 : decode cM_layNode 93 = .ok (.lor, 1) := by decide +kernel
theorem dM_layNode_94 : decode cM_layNode 94 = .ok (.invokevirtual 149, 3) := by decide +kernel
theorem dM_layNode_97 : decode cM_layNode 97 = .ok (.lload_n 3, 1) := by decide +kernel
theorem dM_layNode_98 : decode cM_layNode 98 = .ok (.bipush 7, 2) := by decide +kernel
theorem dM_layNode_100 : decode cM_layNode 100 = .ok (.lshr, 1) := by decide +kernel
theorem dM_layNode_101 : decode cM_layNode 101 = .ok (.lstore_n 3, 1) := by decide +kernel
theorem dM_layNode_102 : decode cM_layNode 102 = .ok (.goto (-34), 3) := by decide +kernel
theorem dM_layNode_105 : decode cM_layNode 105 = .ok (.aload_n 0, 1) := by decide +kernel
theorem dM_layNode_106 : decode cM_layNode 106 = .ok (.lload_n 3, 1) := by decide +kernel
theorem dM_layNode_107 : decode cM_layNode 107 = .ok (.ldc2_w 128, 3) := by decide +kernel
theorem dM_layNode_110 : decode cM_layNode 110 = .ok (.land, 1) := by decide +kernel
theorem dM_layNode_111 : decode cM_layNode 111 = .ok (.invokevirtual 149, 3) := by decide +kernel
theorem dM_layNode_114 : decode cM_layNode 114 = .ok (.goto 26, 3) := by decide +kernel
theorem dM_layNode_117 : decode cM_layNode 117 = .ok (.iload_n 2, 1) := by decide +kernel
theorem dM_layNode_118 : decode cM_layNode 118 = .ok (.bipush 6, 2) := by decide +kernel
theorem dM_layNode_120 : decode cM_layNode 120 = .ok (.if_icmp .eq 15, 3) := by decide +kernel
theorem dM_layNode_123 : decode cM_layNode 123 = .ok (.iload_n 2, 1) := by decide +kernel
theorem dM_layNode_124 : decode cM_layNode 124 = .ok (.bipush 9, 2) := by decide +kernel
theorem dM_layNode_126 : decode cM_layNode 126 = .ok (.if_icmp .eq 9, 3) := by decide +kernel
theorem dM_layNode_129 : decode cM_layNode 129 = .ok (.iload_n 2, 1) := by decide +kernel
theorem dM_layNode_130 : decode cM_layNode 130 = .ok (.bipush 8, 2) := by decide +kernel
theorem dM_layNode_132 : decode cM_layNode 132 = .ok (.if_icmp .ne 8, 3) := by decide +kernel
theorem dM_layNode_135 : decode cM_layNode 135 = .ok (.aload_n 0, 1) := by decide +kernel
theorem dM_layNode_136 : decode cM_layNode 136 = .ok (.lload_n 3, 1) := by decide +kernel
theorem dM_layNode_137 : decode cM_layNode 137 = .ok (.invokevirtual 149, 3) := by decide +kernel
theorem dM_layNode_140 : decode cM_layNode 140 = .ok (.iconst 0, 1) := by decide +kernel
theorem dM_layNode_141 : decode cM_layNode 141 = .ok (.istore 5, 2) := by decide +kernel
theorem dM_layNode_143 : decode cM_layNode 143 = .ok (.iload 5, 2) := by decide +kernel
theorem dM_layNode_145 : decode cM_layNode 145 = .ok (.i2l, 1) := by decide +kernel
theorem dM_layNode_146 : decode cM_layNode 146 = .ok (.lload_n 3, 1) := by decide +kernel
theorem dM_layNode_147 : decode cM_layNode 147 = .ok (.lcmp, 1) := by decide +kernel
theorem dM_layNode_148 : decode cM_layNode 148 = .ok (.ifCond .ge 32, 3) := by decide +kernel
theorem dM_layNode_151 : decode cM_layNode 151 = .ok (.iload_n 2, 1) := by decide +kernel
theorem dM_layNode_152 : decode cM_layNode 152 = .ok (.bipush 8, 2) := by decide +kernel
theorem dM_layNode_154 : decode cM_layNode 154 = .ok (.if_icmp .ne 26, 3) := by decide +kernel
theorem dM_layNode_157 : decode cM_layNode 157 = .ok (.aload_n 0, 1) := by decide +kernel
theorem dM_layNode_158 : decode cM_layNode 158 = .ok (.aload_n 0, 1) := by decide +kernel
theorem dM_layNode_159 : decode cM_layNode 159 = .ok (.getfield 27, 3) := by decide +kernel
theorem dM_layNode_162 : decode cM_layNode 162 = .ok (.bipush 64, 2) := by decide +kernel
theorem dM_layNode_164 : decode cM_layNode 164 = .ok (.iload_n 1, 1) := by decide +kernel
theorem dM_layNode_165 : decode cM_layNode 165 = .ok (.imul, 1) := by decide +kernel
theorem dM_layNode_166 : decode cM_layNode 166 = .ok (.iload 5, 2) := by decide +kernel
theorem dM_layNode_168 : decode cM_layNode 168 = .ok (.iadd, 1) := by decide +kernel
theorem dM_layNode_169 : decode cM_layNode 169 = .ok (.baload, 1) := by decide +kernel
theorem dM_layNode_170 : decode cM_layNode 170 = .ok (.i2l, 1) := by decide +kernel
theorem dM_layNode_171 : decode cM_layNode 171 = .ok (.invokevirtual 149, 3) := by decide +kernel
theorem dM_layNode_174 : decode cM_layNode 174 = .ok (.iinc 5 1, 3) := by decide +kernel
theorem dM_layNode_177 : decode cM_layNode 177 = .ok (.goto (-34), 3) := by decide +kernel
theorem dM_layNode_180 : decode cM_layNode 180 = .ok (.return_, 1) := by decide +kernel
theorem dM_write_0 : decode cM_write 0 = .ok (.aload_n 0, 1) := by decide +kernel
theorem dM_write_1 : decode cM_write 1 = .ok (.iconst 0, 1) := by decide +kernel
theorem dM_write_2 : decode cM_write 2 = .ok (.putfield 77, 3) := by decide +kernel
theorem dM_write_5 : decode cM_write 5 = .ok (.aload_n 0, 1) := by decide +kernel
theorem dM_write_6 : decode cM_write 6 = .ok (.getfield 94, 3) := by decide +kernel
theorem dM_write_9 : decode cM_write 9 = .ok (.ifCond .eq 40, 3) := by decide +kernel
theorem dM_write_12 : decode cM_write 12 = .ok (.aload_n 0, 1) := by decide +kernel
theorem dM_write_13 : decode cM_write 13 = .ok (.getfield 146, 3) := by decide +kernel
theorem dM_write_16 : decode cM_write 16 = .ok (.aload_n 0, 1) := by decide +kernel
theorem dM_write_17 : decode cM_write 17 = .ok (.aload_n 0, 1) := by decide +kernel
theorem dM_write_18 : decode cM_write 18 = .ok (.getfield 31, 3) := by decide +kernel
theorem dM_write_21 : decode cM_write 21 = .ok (.aload_n 0, 1) := by decide +kernel
theorem dM_write_22 : decode cM_write 22 = .ok (.getfield 94, 3) := by decide +kernel
theorem dM_write_25 : decode cM_write 25 = .ok (.ifCond .ne 7, 3) := by decide +kernel
theorem dM_write_28 : decode cM_write 28 = .ok (.iconst 0, 1) := by decide +kernel
theorem dM_write_29 : decode cM_write 29 = .ok (.goto 9, 3) := by decide +kernel
theorem dM_write_32 : decode cM_write 32 = .ok (.aload_n 0, 1) := by decide +kernel
theorem dM_write_33 : decode cM_write 33 = .ok (.getfield 94, 3) := by decide +kernel
theorem dM_write_36 : decode cM_write 36 = .ok (.iconst 1, 1) := by decide +kernel
theorem dM_write_37 : decode cM_write 37 = .ok (.isub, 1) := by decide +kernel
theorem dM_write_38 : decode cM_write 38 = .ok (.iaload, 1) := by decide +kernel
theorem dM_write_39 : decode cM_write 39 = .ok (.invokevirtual 153, 3) := by decide +kernel
theorem dM_write_42 : decode cM_write 42 = .ok (.iadd, 1) := by decide +kernel
theorem dM_write_43 : decode cM_write 43 = .ok (.sipush 4096, 3) := by decide +kernel
theorem dM_write_46 : decode cM_write 46 = .ok (.if_icmp .le 5, 3) := by decide +kernel
theorem dM_write_49 : decode cM_write 49 = .ok (.iconst (-1), 1) := by decide +kernel
theorem dM_write_50 : decode cM_write 50 = .ok (.ireturn, 1) := by decide +kernel
theorem dM_write_51 : decode cM_write 51 = .ok (.iconst 0, 1) := by decide +kernel
theorem dM_write_52 : decode cM_write 52 = .ok (.istore_n 1, 1) := by decide +kernel
theorem dM_write_53 : decode cM_write 53 = .ok (.iload_n 1, 1) := by decide +kernel
theorem dM_write_54 : decode cM_write 54 = .ok (.aload_n 0, 1) := by decide +kernel
theorem dM_write_55 : decode cM_write 55 = .ok (.getfield 87, 3) := by decide +kernel
theorem dM_write_58 : decode cM_write 58 = .ok (.if_icmp .ge 19, 3) := by decide +kernel
theorem dM_write_61 : decode cM_write 61 = .ok (.aload_n 0, 1) := by decide +kernel
theorem dM_write_62 : decode cM_write 62 = .ok (.aload_n 0, 1) := by decide +kernel
theorem dM_write_63 : decode cM_write 63 = .ok (.getfield 44, 3) := by decide +kernel
theorem dM_write_66 : decode cM_write 66 = .ok (.iload_n 1, 1) := by decide +kernel
theorem dM_write_67 : decode cM_write 67 = .ok (.iaload, 1) := by decide +kernel
theorem dM_write_68 : decode cM_write 68 = .ok (.invokevirtual 156, 3) := by decide +kernel
theorem dM_write_71 : decode cM_write 71 = .ok (.iinc 1 1, 3) := by decide +kernel
theorem dM_write_74 : decode cM_write 74 = .ok (.goto (-21), 3) := by decide +kernel
theorem dM_write_77 : decode cM_write 77 = .ok (.aload_n 0, 1) := by decide +kernel
theorem dM_write_78 : decode cM_write 78 = .ok (.getfield 146, 3) := by decide +kernel
theorem dM_write_81 : decode cM_write 81 = .ok (.ireturn, 1) := by decide +kernel
theorem dM_wipe_0 : decode cM_wipe 0 = .ok (.aload_n 0, 1) := by decide +kernel
theorem dM_wipe_1 : decode cM_wipe 1 = .ok (.iconst 0, 1) := by decide +kernel
theorem dM_wipe_2 : decode cM_wipe 2 = .ok (.putfield 77, 3) := by decide +kernel
theorem dM_wipe_5 : decode cM_wipe 5 = .ok (.aload_n 0, 1) := by decide +kernel
theorem dM_wipe_6 : decode cM_wipe 6 = .ok (.iconst 0, 1) := by decide +kernel
theorem dM_wipe_7 : decode cM_wipe 7 = .ok (.putfield 146, 3) := by decide +kernel
theorem dM_wipe_10 : decode cM_wipe 10 = .ok (.return_, 1) := by decide +kernel
theorem dM_give_0 : decode cM_give 0 = .ok (.aload_n 0, 1) := by decide +kernel
theorem dM_give_1 : decode cM_give 1 = .ok (.iconst 0, 1) := by decide +kernel
theorem dM_give_2 : decode cM_give 2 = .ok (.putfield 77, 3) := by decide +kernel
theorem dM_give_5 : decode cM_give 5 = .ok (.iload_n 3, 1) := by decide +kernel
theorem dM_give_6 : decode cM_give 6 = .ok (.iconst 1, 1) := by decide +kernel
theorem dM_give_7 : decode cM_give 7 = .ok (.if_icmp .lt 21, 3) := by decide +kernel
theorem dM_give_10 : decode cM_give 10 = .ok (.iload_n 3, 1) := by decide +kernel
theorem dM_give_11 : decode cM_give 11 = .ok (.bipush 8, 2) := by decide +kernel
theorem dM_give_13 : decode cM_give 13 = .ok (.if_icmp .gt 15, 3) := by decide +kernel
theorem dM_give_16 : decode cM_give 16 = .ok (.aload_n 0, 1) := by decide +kernel
theorem dM_give_17 : decode cM_give 17 = .ok (.getfield 159, 3) := by decide +kernel
theorem dM_give_20 : decode cM_give 20 = .ok (.iload_n 3, 1) := by decide +kernel
theorem dM_give_21 : decode cM_give 21 = .ok (.iadd, 1) := by decide +kernel
theorem dM_give_22 : decode cM_give 22 = .ok (.sipush 4096, 3) := by decide +kernel
theorem dM_give_25 : decode cM_give 25 = .ok (.if_icmp .le 5, 3) := by decide +kernel
theorem dM_give_28 : decode cM_give 28 = .ok (.iconst 0, 1) := by decide +kernel
theorem dM_give_29 : decode cM_give 29 = .ok (.ireturn, 1) := by decide +kernel
theorem dM_give_30 : decode cM_give 30 = .ok (.iload_n 3, 1) := by decide +kernel
theorem dM_give_31 : decode cM_give 31 = .ok (.iconst 1, 1) := by decide +kernel
theorem dM_give_32 : decode cM_give 32 = .ok (.isub, 1) := by decide +kernel
theorem dM_give_33 : decode cM_give 33 = .ok (.istore 4, 2) := by decide +kernel
theorem dM_give_35 : decode cM_give 35 = .ok (.iload 4, 2) := by decide +kernel
theorem dM_give_37 : decode cM_give 37 = .ok (.ifCond .lt 37, 3) := by decide +kernel
theorem dM_give_40 : decode cM_give 40 = .ok (.aload_n 0, 1) := by decide +kernel
theorem dM_give_41 : decode cM_give 41 = .ok (.getfield 37, 3) := by decide +kernel
theorem dM_give_44 : decode cM_give 44 = .ok (.aload_n 0, 1) := by decide +kernel
theorem dM_give_45 : decode cM_give 45 = .ok (.getfield 159, 3) := by decide +kernel
theorem dM_give_48 : decode cM_give 48 = .ok (.lload_n 1, 1) := by decide +kernel
theorem dM_give_49 : decode cM_give 49 = .ok (.bipush 8, 2) := by decide +kernel
theorem dM_give_51 : decode cM_give 51 = .ok (.iload 4, 2) := by decide +kernel
theorem dM_give_53 : decode cM_give 53 = .ok (.imul, 1) := by decide +kernel
theorem dM_give_54 : decode cM_give 54 = .ok (.lshr, 1) := by decide +kernel
theorem dM_give_55 : decode cM_give 55 = .ok (.l2i, 1) := by decide +kernel
theorem dM_give_56 : decode cM_give 56 = .ok (.i2b, 1) := by decide +kernel
theorem dM_give_57 : decode cM_give 57 = .ok (.bastore, 1) := by decide +kernel
theorem dM_give_58 : decode cM_give 58 = .ok (.aload_n 0, 1) := by decide +kernel
theorem dM_give_59 : decode cM_give 59 = .ok (.dup, 1) := by decide +kernel
theorem dM_give_60 : decode cM_give 60 = .ok (.getfield 159, 3) := by decide +kernel
theorem dM_give_63 : decode cM_give 63 = .ok (.iconst 1, 1) := by decide +kernel
theorem dM_give_64 : decode cM_give 64 = .ok (.iadd, 1) := by decide +kernel
theorem dM_give_65 : decode cM_give 65 = .ok (.putfield 159, 3) := by decide +kernel
theorem dM_give_68 : decode cM_give 68 = .ok (.iinc 4 (-1), 3) := by decide +kernel
theorem dM_give_71 : decode cM_give 71 = .ok (.goto (-36), 3) := by decide +kernel
theorem dM_give_74 : decode cM_give 74 = .ok (.iconst 1, 1) := by decide +kernel
theorem dM_give_75 : decode cM_give 75 = .ok (.ireturn, 1) := by decide +kernel
theorem dM_cut_0 : decode cM_cut 0 = .ok (.aload_n 0, 1) := by decide +kernel
theorem dM_cut_1 : decode cM_cut 1 = .ok (.iconst 0, 1) := by decide +kernel
theorem dM_cut_2 : decode cM_cut 2 = .ok (.putfield 77, 3) := by decide +kernel
theorem dM_cut_5 : decode cM_cut 5 = .ok (.iload_n 1, 1) := by decide +kernel
theorem dM_cut_6 : decode cM_cut 6 = .ok (.ifCond .lt 11, 3) := by decide +kernel
theorem dM_cut_9 : decode cM_cut 9 = .ok (.iload_n 1, 1) := by decide +kernel
theorem dM_cut_10 : decode cM_cut 10 = .ok (.aload_n 0, 1) := by decide +kernel
theorem dM_cut_11 : decode cM_cut 11 = .ok (.getfield 159, 3) := by decide +kernel
theorem dM_cut_14 : decode cM_cut 14 = .ok (.if_icmp .le 5, 3) := by decide +kernel
theorem dM_cut_17 : decode cM_cut 17 = .ok (.iconst 0, 1) := by decide +kernel
theorem dM_cut_18 : decode cM_cut 18 = .ok (.ireturn, 1) := by decide +kernel
theorem dM_cut_19 : decode cM_cut 19 = .ok (.aload_n 0, 1) := by decide +kernel
theorem dM_cut_20 : decode cM_cut 20 = .ok (.iload_n 1, 1) := by decide +kernel
theorem dM_cut_21 : decode cM_cut 21 = .ok (.putfield 159, 3) := by decide +kernel
theorem dM_cut_24 : decode cM_cut 24 = .ok (.aload_n 0, 1) := by decide +kernel
theorem dM_cut_25 : decode cM_cut 25 = .ok (.iconst 0, 1) := by decide +kernel
theorem dM_cut_26 : decode cM_cut 26 = .ok (.putfield 162, 3) := by decide +kernel
theorem dM_cut_29 : decode cM_cut 29 = .ok (.iconst 1, 1) := by decide +kernel
theorem dM_cut_30 : decode cM_cut 30 = .ok (.ireturn, 1) := by decide +kernel
theorem dM_turn_0 : decode cM_turn 0 = .ok (.aload_n 0, 1) := by decide +kernel
theorem dM_turn_1 : decode cM_turn 1 = .ok (.iconst 0, 1) := by decide +kernel
theorem dM_turn_2 : decode cM_turn 2 = .ok (.putfield 77, 3) := by decide +kernel
theorem dM_turn_5 : decode cM_turn 5 = .ok (.aload_n 0, 1) := by decide +kernel
theorem dM_turn_6 : decode cM_turn 6 = .ok (.aload_n 0, 1) := by decide +kernel
theorem dM_turn_7 : decode cM_turn 7 = .ok (.getfield 146, 3) := by decide +kernel
theorem dM_turn_10 : decode cM_turn 10 = .ok (.putfield 159, 3) := by decide +kernel
theorem dM_turn_13 : decode cM_turn 13 = .ok (.iconst 0, 1) := by decide +kernel
theorem dM_turn_14 : decode cM_turn 14 = .ok (.istore_n 1, 1) := by decide +kernel
theorem dM_turn_15 : decode cM_turn 15 = .ok (.iload_n 1, 1) := by decide +kernel
theorem dM_turn_16 : decode cM_turn 16 = .ok (.aload_n 0, 1) := by decide +kernel
theorem dM_turn_17 : decode cM_turn 17 = .ok (.getfield 146, 3) := by decide +kernel
theorem dM_turn_20 : decode cM_turn 20 = .ok (.if_icmp .ge 21, 3) := by decide +kernel
theorem dM_turn_23 : decode cM_turn 23 = .ok (.aload_n 0, 1) := by decide +kernel
theorem dM_turn_24 : decode cM_turn 24 = .ok (.getfield 37, 3) := by decide +kernel
theorem dM_turn_27 : decode cM_turn 27 = .ok (.iload_n 1, 1) := by decide +kernel
theorem dM_turn_28 : decode cM_turn 28 = .ok (.aload_n 0, 1) := by decide +kernel
theorem dM_turn_29 : decode cM_turn 29 = .ok (.getfield 34, 3) := by decide +kernel
theorem dM_turn_32 : decode cM_turn 32 = .ok (.iload_n 1, 1) := by decide +kernel
theorem dM_turn_33 : decode cM_turn 33 = .ok (.baload, 1) := by decide +kernel
theorem dM_turn_34 : decode cM_turn 34 = .ok (.bastore, 1) := by decide +kernel
theorem dM_turn_35 : decode cM_turn 35 = .ok (.iinc 1 1, 3) := by decide +kernel
theorem dM_turn_38 : decode cM_turn 38 = .ok (.goto (-23), 3) := by decide +kernel
theorem dM_turn_41 : decode cM_turn 41 = .ok (.aload_n 0, 1) := by decide +kernel
theorem dM_turn_42 : decode cM_turn 42 = .ok (.iconst 0, 1) := by decide +kernel
theorem dM_turn_43 : decode cM_turn 43 = .ok (.putfield 162, 3) := by decide +kernel
theorem dM_turn_46 : decode cM_turn 46 = .ok (.return_, 1) := by decide +kernel
theorem dM_wrong_0 : decode cM_wrong 0 = .ok (.aload_n 0, 1) := by decide +kernel
theorem dM_wrong_1 : decode cM_wrong 1 = .ok (.getfield 165, 3) := by decide +kernel
theorem dM_wrong_4 : decode cM_wrong 4 = .ok (.ifCond .ne 13, 3) := by decide +kernel
theorem dM_wrong_7 : decode cM_wrong 7 = .ok (.aload_n 0, 1) := by decide +kernel
theorem dM_wrong_8 : decode cM_wrong 8 = .ok (.iload_n 1, 1) := by decide +kernel
theorem dM_wrong_9 : decode cM_wrong 9 = .ok (.putfield 165, 3) := by decide +kernel
theorem dM_wrong_12 : decode cM_wrong 12 = .ok (.aload_n 0, 1) := by decide +kernel
theorem dM_wrong_13 : decode cM_wrong 13 = .ok (.iload_n 2, 1) := by decide +kernel
theorem dM_wrong_14 : decode cM_wrong 14 = .ok (.putfield 40, 3) := by decide +kernel
theorem dM_wrong_17 : decode cM_wrong 17 = .ok (.iconst 0, 1) := by decide +kernel
theorem dM_wrong_18 : decode cM_wrong 18 = .ok (.ireturn, 1) := by decide +kernel
theorem dM_next_0 : decode cM_next 0 = .ok (.aload_n 0, 1) := by decide +kernel
theorem dM_next_1 : decode cM_next 1 = .ok (.getfield 165, 3) := by decide +kernel
theorem dM_next_4 : decode cM_next 4 = .ok (.ifCond .le 5, 3) := by decide +kernel
theorem dM_next_7 : decode cM_next 7 = .ok (.iconst 0, 1) := by decide +kernel
theorem dM_next_8 : decode cM_next 8 = .ok (.ireturn, 1) := by decide +kernel
theorem dM_next_9 : decode cM_next 9 = .ok (.aload_n 0, 1) := by decide +kernel
theorem dM_next_10 : decode cM_next 10 = .ok (.getfield 168, 3) := by decide +kernel
theorem dM_next_13 : decode cM_next 13 = .ok (.aload_n 0, 1) := by decide +kernel
theorem dM_next_14 : decode cM_next 14 = .ok (.getfield 159, 3) := by decide +kernel
theorem dM_next_17 : decode cM_next 17 = .ok (.if_icmp .ne 13, 3) := by decide +kernel
theorem dM_next_20 : decode cM_next 20 = .ok (.aload_n 0, 1) := by decide +kernel
theorem dM_next_21 : decode cM_next 21 = .ok (.iconst 1, 1) := by decide +kernel
theorem dM_next_22 : decode cM_next 22 = .ok (.aload_n 0, 1) := by decide +kernel
theorem dM_next_23 : decode cM_next 23 = .ok (.getfield 159, 3) := by decide +kernel
theorem dM_next_26 : decode cM_next 26 = .ok (.invokevirtual 171, 3) := by decide +kernel
theorem dM_next_29 : decode cM_next 29 = .ok (.ireturn, 1) := by decide +kernel
theorem dM_next_30 : decode cM_next 30 = .ok (.aload_n 0, 1) := by decide +kernel
theorem dM_next_31 : decode cM_next 31 = .ok (.dup, 1) := by decide +kernel
theorem dM_next_32 : decode cM_next 32 = .ok (.getfield 168, 3) := by decide +kernel
theorem dM_next_35 : decode cM_next 35 = .ok (.iconst 1, 1) := by decide +kernel
theorem dM_next_36 : decode cM_next 36 = .ok (.iadd, 1) := by decide +kernel
theorem dM_next_37 : decode cM_next 37 = .ok (.putfield 168, 3) := by decide +kernel
theorem dM_next_40 : decode cM_next 40 = .ok (.aload_n 0, 1) := by decide +kernel
theorem dM_next_41 : decode cM_next 41 = .ok (.getfield 37, 3) := by decide +kernel
theorem dM_next_44 : decode cM_next 44 = .ok (.aload_n 0, 1) := by decide +kernel
theorem dM_next_45 : decode cM_next 45 = .ok (.getfield 168, 3) := by decide +kernel
theorem dM_next_48 : decode cM_next 48 = .ok (.iconst 1, 1) := by decide +kernel
theorem dM_next_49 : decode cM_next 49 = .ok (.isub, 1) := by decide +kernel
theorem dM_next_50 : decode cM_next 50 = .ok (.baload, 1) := by decide +kernel
theorem dM_next_51 : decode cM_next 51 = .ok (.sipush 255, 3) := by decide +kernel
theorem dM_next_54 : decode cM_next 54 = .ok (.iand, 1) := by decide +kernel
theorem dM_next_55 : decode cM_next 55 = .ok (.ireturn, 1) := by decide +kernel
theorem dM_readU_0 : decode cM_readU 0 = .ok (.lconst 0, 1) := by decide +kernel
theorem dM_readU_1 : decode cM_readU 1 = .ok (.lstore_n 1, 1) := by decide +kernel
theorem dM_readU_2 : decode cM_readU 2 = .ok (.iconst 0, 1) := by decide +kernel
theorem dM_readU_3 : decode cM_readU 3 = .ok (.istore_n 3, 1) := by decide +kernel
theorem dM_readU_4 : decode cM_readU 4 = .ok (.sipush 128, 3) := by decide +kernel
theorem dM_readU_7 : decode cM_readU 7 = .ok (.istore 4, 2) := by decide +kernel
theorem dM_readU_9 : decode cM_readU 9 = .ok (.iload 4, 2) := by decide +kernel
theorem dM_readU_11 : decode cM_readU 11 = .ok (.bipush 127, 2) := by decide +kernel
theorem dM_readU_13 : decode cM_readU 13 = .ok (.if_icmp .le 34, 3) := by decide +kernel
theorem dM_readU_16 : decode cM_readU 16 = .ok (.iload_n 3, 1) := by decide +kernel
theorem dM_readU_17 : decode cM_readU 17 = .ok (.iconst 5, 1) := by decide +kernel
theorem dM_readU_18 : decode cM_readU 18 = .ok (.if_icmp .ge 29, 3) := by decide +kernel
theorem dM_readU_21 : decode cM_readU 21 = .ok (.aload_n 0, 1) := by decide +kernel
theorem dM_readU_22 : decode cM_readU 22 = .ok (.invokevirtual 175, 3) := by decide +kernel
theorem dM_readU_25 : decode cM_readU 25 = .ok (.istore 4, 2) := by decide +kernel
theorem dM_readU_27 : decode cM_readU 27 = .ok (.lload_n 1, 1) := by decide +kernel
theorem dM_readU_28 : decode cM_readU 28 = .ok (.iload 4, 2) := by decide +kernel
theorem dM_readU_30 : decode cM_readU 30 = .ok (.bipush 127, 2) := by decide +kernel
theorem dM_readU_32 : decode cM_readU 32 = .ok (.iand, 1) := by decide +kernel
theorem dM_readU_33 : decode cM_readU 33 = .ok (.i2l, 1) := by decide +kernel
theorem dM_readU_34 : decode cM_readU 34 = .ok (.bipush 7, 2) := by decide +kernel
theorem dM_readU_36 : decode cM_readU 36 = .ok (.iload_n 3, 1) := by decide +kernel
theorem dM_readU_37 : decode cM_readU 37 = .ok (.imul, 1) := by decide +kernel
theorem dM_readU_38 : decode cM_readU 38 = .ok (.lshl, 1) := by decide +kernel
theorem dM_readU_39 : decode cM_readU 39 = .ok (.ladd, 1) := by decide +kernel
theorem dM_readU_40 : decode cM_readU 40 = .ok (.lstore_n 1, 1) := by decide +kernel
theorem dM_readU_41 : decode cM_readU 41 = .ok (.iinc 3 1, 3) := by decide +kernel
theorem dM_readU_44 : decode cM_readU 44 = .ok (.goto (-35), 3) := by decide +kernel
theorem dM_readU_47 : decode cM_readU 47 = .ok (.aload_n 0, 1) := by decide +kernel
theorem dM_readU_48 : decode cM_readU 48 = .ok (.getfield 165, 3) := by decide +kernel
theorem dM_readU_51 : decode cM_readU 51 = .ok (.ifCond .ne 43, 3) := by decide +kernel
theorem dM_readU_54 : decode cM_readU 54 = .ok (.iload 4, 2) := by decide +kernel
theorem dM_readU_56 : decode cM_readU 56 = .ok (.bipush 127, 2) := by decide +kernel
theorem dM_readU_58 : decode cM_readU 58 = .ok (.if_icmp .gt 21, 3) := by decide +kernel
theorem dM_readU_61 : decode cM_readU 61 = .ok (.lload_n 1, 1) := by decide +kernel
theorem dM_readU_62 : decode cM_readU 62 = .ok (.ldc2_w 178, 3) := by decide +kernel
theorem dM_readU_65 : decode cM_readU 65 = .ok (.lcmp, 1) := by decide +kernel
theorem dM_readU_66 : decode cM_readU 66 = .ok (.ifCond .gt 13, 3) := by decide +kernel
theorem dM_readU_69 : decode cM_readU 69 = .ok (.iload_n 3, 1) := by decide +kernel
theorem dM_readU_70 : decode cM_readU 70 = .ok (.iconst 1, 1) := by decide +kernel
theorem dM_readU_71 : decode cM_readU 71 = .ok (.if_icmp .le 23, 3) := by decide +kernel
theorem dM_readU_74 : decode cM_readU 74 = .ok (.iload 4, 2) := by decide +kernel
theorem dM_readU_76 : decode cM_readU 76 = .ok (.ifCond .ne 18, 3) := by decide +kernel
theorem dM_readU_79 : decode cM_readU 79 = .ok (.aload_n 0, 1) := by decide +kernel
theorem dM_readU_80 : decode cM_readU 80 = .ok (.iconst 2, 1) := by decide +kernel
theorem dM_readU_81 : decode cM_readU 81 = .ok (.aload_n 0, 1) := by decide +kernel
theorem dM_readU_82 : decode cM_readU 82 = .ok (.getfield 168, 3) := by decide +kernel
theorem dM_readU_85 : decode cM_readU 85 = .ok (.iconst 1, 1) := by decide +kernel
theorem dM_readU_86 : decode cM_readU 86 = .ok (.isub, 1) := by decide +kernel
theorem dM_readU_87 : decode cM_readU 87 = .ok (.invokevirtual 171, 3) := by decide +kernel
theorem dM_readU_90 : decode cM_readU 90 = .ok (.i2l, 1) := by decide +kernel
theorem dM_readU_91 : decode cM_readU 91 = .ok (.goto 4, 3) := by decide +kernel
theorem dM_readU_94 : decode cM_readU 94 = .ok (.lload_n 1, 1) := by decide +kernel
theorem dM_readU_95 : decode cM_readU 95 = .ok (.lreturn, 1) := by decide +kernel
theorem dM_readS_0 : decode cM_readS 0 = .ok (.lconst 0, 1) := by decide +kernel
theorem dM_readS_1 : decode cM_readS 1 = .ok (.lstore_n 1, 1) := by decide +kernel
theorem dM_readS_2 : decode cM_readS 2 = .ok (.iconst 0, 1) := by decide +kernel
theorem dM_readS_3 : decode cM_readS 3 = .ok (.istore_n 3, 1) := by decide +kernel
theorem dM_readS_4 : decode cM_readS 4 = .ok (.sipush 128, 3) := by decide +kernel
theorem dM_readS_7 : decode cM_readS 7 = .ok (.istore 4, 2) := by decide +kernel
theorem dM_readS_9 : decode cM_readS 9 = .ok (.iconst 0, 1) := by decide +kernel
theorem dM_readS_10 : decode cM_readS 10 = .ok (.istore 5, 2) := by decide +kernel
theorem dM_readS_12 : decode cM_readS 12 = .ok (.iload 4, 2) := by decide +kernel
theorem dM_readS_14 : decode cM_readS 14 = .ok (.bipush 127, 2) := by decide +kernel
theorem dM_readS_16 : decode cM_readS 16 = .ok (.if_icmp .le 49, 3) := by decide +kernel
theorem dM_readS_19 : decode cM_readS 19 = .ok (.iload_n 3, 1) := by decide +kernel
theorem dM_readS_20 : decode cM_readS 20 = .ok (.bipush 10, 2) := by decide +kernel
theorem dM_readS_22 : decode cM_readS 22 = .ok (.if_icmp .ge 43, 3) := by decide +kernel
theorem dM_readS_25 : decode cM_readS 25 = .ok (.iload 4, 2) := by decide +kernel
theorem dM_readS_27 : decode cM_readS 27 = .ok (.istore 5, 2) := by decide +kernel
theorem dM_readS_29 : decode cM_readS 29 = .ok (.aload_n 0, 1) := by decide +kernel
theorem dM_readS_30 : decode cM_readS 30 = .ok (.invokevirtual 175, 3) := by decide +kernel
theorem dM_readS_33 : decode cM_readS 33 = .ok (.istore 4, 2) := by decide +kernel
theorem dM_readS_35 : decode cM_readS 35 = .ok (.lload_n 1, 1) := by decide +kernel
theorem dM_readS_36 : decode cM_readS 36 = .ok (.iload_n 3, 1) := by decide +kernel
theorem dM_readS_37 : decode cM_readS 37 = .ok (.bipush 10, 2) := by decide +kernel
theorem dM_readS_39 : decode cM_readS 39 = .ok (.if_icmp .ge 17, 3) := by decide +kernel
theorem dM_readS_42 : decode cM_readS 42 = .ok (.iload 4, 2) := by decide +kernel
theorem dM_readS_44 : decode cM_readS 44 = .ok (.bipush 127, 2) := by decide +kernel
theorem dM_readS_46 : decode cM_readS 46 = .ok (.iand, 1) := by decide +kernel
theorem dM_readS_47 : decode cM_readS 47 = .ok (.i2l, 1) := by decide +kernel
theorem dM_readS_48 : decode cM_readS 48 = .ok (.bipush 7, 2) := by decide +kernel
theorem dM_readS_50 : decode cM_readS 50 = .ok (.iload_n 3, 1) := by decide +kernel
theorem dM_readS_51 : decode cM_readS 51 = .ok (.imul, 1) := by decide +kernel
theorem dM_readS_52 : decode cM_readS 52 = .ok (.lshl, 1) := by decide +kernel
theorem dM_readS_53 : decode cM_readS 53 = .ok (.goto 4, 3) := by decide +kernel
theorem dM_readS_56 : decode cM_readS 56 = .ok (.lconst 0, 1) := by decide +kernel
theorem dM_readS_57 : decode cM_readS 57 = .ok (.lor, 1) := by decide +kernel
theorem dM_readS_58 : decode cM_readS 58 = .ok (.lstore_n 1, 1) := by decide +kernel
theorem dM_readS_59 : decode cM_readS 59 = .ok (.iinc 3 1, 3) := by decide +kernel
theorem dM_readS_62 : decode cM_readS 62 = .ok (.goto (-50), 3) := by decide +kernel
theorem dM_readS_65 : decode cM_readS 65 = .ok (.iload_n 3, 1) := by decide +kernel
theorem dM_readS_66 : decode cM_readS 66 = .ok (.iconst 1, 1) := by decide +kernel
theorem dM_readS_67 : decode cM_readS 67 = .ok (.if_icmp .le 35, 3) := by decide +kernel
theorem dM_readS_70 : decode cM_readS 70 = .ok (.iload 4, 2) := by decide +kernel
theorem dM_readS_72 : decode cM_readS 72 = .ok (.ifCond .ne 11, 3) := by decide +kernel
theorem dM_readS_75 : decode cM_readS 75 = .ok (.iload 5, 2) := by decide +kernel
theorem dM_readS_77 : decode cM_readS 77 = .ok (.bipush 64, 2) := by decide +kernel
theorem dM_readS_79 : decode cM_readS 79 = .ok (.iand, 1) := by decide +kernel
theorem dM_readS_80 : decode cM_readS 80 = .ok (.ifCond .eq 18, 3) := by decide +kernel
theorem dM_readS_83 : decode cM_readS 83 = .ok (.iload 4, 2) := by decide +kernel
theorem dM_readS_85 : decode cM_readS 85 = .ok (.bipush 127, 2) := by decide +kernel
theorem dM_readS_87 : decode cM_readS 87 = .ok (.if_icmp .ne 15, 3) := by decide +kernel
theorem dM_readS_90 : decode cM_readS 90 = .ok (.iload 5, 2) := by decide +kernel
theorem dM_readS_92 : decode cM_readS 92 = .ok (.bipush 64, 2) := by decide +kernel
theorem dM_readS_94 : decode cM_readS 94 = .ok (.iand, 1) := by decide +kernel
theorem dM_readS_95 : decode cM_readS 95 = .ok (.ifCond .le 7, 3) := by decide +kernel
theorem dM_readS_98 : decode cM_readS 98 = .ok (.iconst 1, 1) := by decide +kernel
theorem dM_readS_99 : decode cM_readS 99 = .ok (.goto 4, 3) := by decide +kernel
theorem dM_readS_102 : decode cM_readS 102 = .ok (.iconst 0, 1) := by decide +kernel
theorem dM_readS_103 : decode cM_readS 103 = .ok (.istore 6, 2) := by decide +kernel
theorem dM_readS_105 : decode cM_readS 105 = .ok (.iload_n 3, 1) := by decide +kernel
theorem dM_readS_106 : decode cM_readS 106 = .ok (.bipush 10, 2) := by decide +kernel
theorem dM_readS_108 : decode cM_readS 108 = .ok (.if_icmp .ne 19, 3) := by decide +kernel
theorem dM_readS_111 : decode cM_readS 111 = .ok (.iload 4, 2) := by decide +kernel
theorem dM_readS_113 : decode cM_readS 113 = .ok (.ifCond .eq 14, 3) := by decide +kernel
theorem dM_readS_116 : decode cM_readS 116 = .ok (.iload 4, 2) := by decide +kernel
theorem dM_readS_118 : decode cM_readS 118 = .ok (.bipush 127, 2) := by decide +kernel
theorem dM_readS_120 : decode cM_readS 120 = .ok (.if_icmp .eq 7, 3) := by decide +kernel
theorem dM_readS_123 : decode cM_readS 123 = .ok (.iconst 1, 1) := by decide +kernel
theorem dM_readS_124 : decode cM_readS 124 = .ok (.goto 4, 3) := by decide +kernel
theorem dM_readS_127 : decode cM_readS 127 = .ok (.iconst 0, 1) := by decide +kernel
theorem dM_readS_128 : decode cM_readS 128 = .ok (.istore 7, 2) := by decide +kernel
theorem dM_readS_130 : decode cM_readS 130 = .ok (.aload_n 0, 1) := by decide +kernel
theorem dM_readS_131 : decode cM_readS 131 = .ok (.getfield 165, 3) := by decide +kernel
theorem dM_readS_134 : decode cM_readS 134 = .ok (.ifCond .ne 33, 3) := by decide +kernel
theorem dM_readS_137 : decode cM_readS 137 = .ok (.iload 4, 2) := by decide +kernel
theorem dM_readS_139 : decode cM_readS 139 = .ok (.bipush 127, 2) := by decide +kernel
theorem dM_readS_141 : decode cM_readS 141 = .ok (.if_icmp .gt 13, 3) := by decide +kernel
theorem dM_readS_144 : decode cM_readS 144 = .ok (.iload 6, 2) := by decide +kernel
theorem dM_readS_146 : decode cM_readS 146 = .ok (.ifCond .ne 8, 3) := by decide +kernel
theorem dM_readS_149 : decode cM_readS 149 = .ok (.iload 7, 2) := by decide +kernel
theorem dM_readS_151 : decode cM_readS 151 = .ok (.ifCond .eq 16, 3) := by decide +kernel
theorem dM_readS_154 : decode cM_readS 154 = .ok (.aload_n 0, 1) := by decide +kernel
theorem dM_readS_155 : decode cM_readS 155 = .ok (.iconst 2, 1) := by decide +kernel
theorem dM_readS_156 : decode cM_readS 156 = .ok (.aload_n 0, 1) := by decide +kernel
theorem dM_readS_157 : decode cM_readS 157 = .ok (.getfield 168, 3) := by decide +kernel
theorem dM_readS_160 : decode cM_readS 160 = .ok (.iconst 1, 1) := by decide +kernel
theorem dM_readS_161 : decode cM_readS 161 = .ok (.isub, 1) := by decide +kernel
theorem dM_readS_162 : decode cM_readS 162 = .ok (.invokevirtual 171, 3) := by decide +kernel
theorem dM_readS_165 : decode cM_readS 165 = .ok (.i2l, 1) := by decide +kernel
theorem dM_readS_166 : decode cM_readS 166 = .ok (.lreturn, 1) := by decide +kernel
theorem dM_readS_167 : decode cM_readS 167 = .ok (.iload_n 3, 1) := by decide +kernel
theorem dM_readS_168 : decode cM_readS 168 = .ok (.bipush 10, 2) := by decide +kernel
theorem dM_readS_170 : decode cM_readS 170 = .ok (.if_icmp .ge 24, 3) := by decide +kernel
theorem dM_readS_173 : decode cM_readS 173 = .ok (.iload 4, 2) := by decide +kernel
theorem dM_readS_175 : decode cM_readS 175 = .ok (.bipush 64, 2) := by decide +kernel
theorem dM_readS_177 : decode cM_readS 177 = .ok (.iand, 1) := by decide +kernel
theorem dM_readS_178 : decode cM_readS 178 = .ok (.ifCond .le 16, 3) := by decide +kernel
theorem dM_readS_181 : decode cM_readS 181 = .ok (.lload_n 1, 1) := by decide +kernel
theorem dM_readS_182 : decode cM_readS 182 = .ok (.ldc2_w 180, 3) := by decide +kernel
theorem dM_readS_185 : decode cM_readS 185 = .ok (.bipush 7, 2) := by decide +kernel
theorem dM_readS_187 : decode cM_readS 187 = .ok (.iload_n 3, 1) := by decide +kernel
theorem dM_readS_188 : decode cM_readS 188 = .ok (.imul, 1) := by decide +kernel
theorem dM_readS_189 : decode cM_readS 189 = .ok (.lshl, 1) := by decide +kernel
theorem dM_readS_190 : decode cM_readS 190 = .ok (.lor, 1) := by decide +kernel
theorem dM_readS_191 : decode cM_readS 191 = .ok (.goto 4, 3) := by decide +kernel
theorem dM_readS_194 : decode cM_readS 194 = .ok (.lload_n 1, 1) := by decide +kernel
theorem dM_readS_195 : decode cM_readS 195 = .ok (.lreturn, 1) := by decide +kernel
theorem dM_must_0 : decode cM_must 0 = .ok (.iload_n 1, 1) := by decide +kernel
theorem dM_must_1 : decode cM_must 1 = .ok (.ifCond .ne 15, 3) := by decide +kernel
theorem dM_must_4 : decode cM_must 4 = .ok (.aload_n 0, 1) := by decide +kernel
theorem dM_must_5 : decode cM_must 5 = .ok (.iconst 3, 1) := by decide +kernel
theorem dM_must_6 : decode cM_must 6 = .ok (.aload_n 0, 1) := by decide +kernel
theorem dM_must_7 : decode cM_must 7 = .ok (.getfield 168, 3) := by decide +kernel
theorem dM_must_10 : decode cM_must 10 = .ok (.iconst 1, 1) := by decide +kernel
theorem dM_must_11 : decode cM_must 11 = .ok (.isub, 1) := by decide +kernel
theorem dM_must_12 : decode cM_must 12 = .ok (.invokevirtual 171, 3) := by decide +kernel
theorem dM_must_15 : decode cM_must 15 = .ok (.istore_n 2, 1) := by decide +kernel
theorem dM_must_16 : decode cM_must 16 = .ok (.return_, 1) := by decide +kernel
theorem dM_readNode_0 : decode cM_readNode 0 = .ok (.aload_n 0, 1) := by decide +kernel
theorem dM_readNode_1 : decode cM_readNode 1 = .ok (.getfield 168, 3) := by decide +kernel
theorem dM_readNode_4 : decode cM_readNode 4 = .ok (.istore_n 2, 1) := by decide +kernel
theorem dM_readNode_5 : decode cM_readNode 5 = .ok (.aload_n 0, 1) := by decide +kernel
theorem dM_readNode_6 : decode cM_readNode 6 = .ok (.invokevirtual 175, 3) := by decide +kernel
theorem dM_readNode_9 : decode cM_readNode 9 = .ok (.istore_n 3, 1) := by decide +kernel
theorem dM_readNode_10 : decode cM_readNode 10 = .ok (.aload_n 0, 1) := by decide +kernel
theorem dM_readNode_11 : decode cM_readNode 11 = .ok (.aload_n 0, 1) := by decide +kernel
theorem dM_readNode_12 : decode cM_readNode 12 = .ok (.getfield 165, 3) := by decide +kernel
theorem dM_readNode_15 : decode cM_readNode 15 = .ok (.ifCond .gt 9, 3) := by decide +kernel
theorem dM_readNode_18 : decode cM_readNode 18 = .ok (.iload_n 3, 1) := by decide +kernel
theorem dM_readNode_19 : decode cM_readNode 19 = .ok (.bipush 12, 2) := by decide +kernel
theorem dM_readNode_21 : decode cM_readNode 21 = .ok (.if_icmp .ge 7, 3) := by decide +kernel
theorem dM_readNode_24 : decode cM_readNode 24 = .ok (.iconst 1, 1) := by decide +kernel
theorem dM_readNode_25 : decode cM_readNode 25 = .ok (.goto 4, 3) := by decide +kernel
theorem dM_readNode_28 : decode cM_readNode 28 = .ok (.iconst 0, 1) := by decide +kernel
theorem dM_readNode_29 : decode cM_readNode 29 = .ok (.invokevirtual 182, 3) := by decide +kernel
theorem dM_readNode_32 : decode cM_readNode 32 = .ok (.iload_n 1, 1) := by decide +kernel
theorem dM_readNode_33 : decode cM_readNode 33 = .ok (.ifCond .ge 7, 3) := by decide +kernel
theorem dM_readNode_36 : decode cM_readNode 36 = .ok (.iconst 1, 1) := by decide +kernel
theorem dM_readNode_37 : decode cM_readNode 37 = .ok (.goto 11, 3) := by decide +kernel
theorem dM_readNode_40 : decode cM_readNode 40 = .ok (.aload_n 0, 1) := by decide +kernel
theorem dM_readNode_41 : decode cM_readNode 41 = .ok (.getfield 68, 3) := by decide +kernel
theorem dM_readNode_44 : decode cM_readNode 44 = .ok (.iload_n 1, 1) := by decide +kernel
theorem dM_readNode_45 : decode cM_readNode 45 = .ok (.iaload, 1) := by decide +kernel
theorem dM_readNode_46 : decode cM_readNode 46 = .ok (.iconst 1, 1) := by decide +kernel
theorem dM_readNode_47 : decode cM_readNode 47 = .ok (.iadd, 1) := by decide +kernel
theorem dM_readNode_48 : decode cM_readNode 48 = .ok (.istore 4, 2) := by decide +kernel
theorem dM_readNode_50 : decode cM_readNode 50 = .ok (.aload_n 0, 1) := by decide +kernel
theorem dM_readNode_51 : decode cM_readNode 51 = .ok (.getfield 165, 3) := by decide +kernel
theorem dM_readNode_54 : decode cM_readNode 54 = .ok (.ifCond .ne 18, 3) := by decide +kernel
theorem dM_readNode_57 : decode cM_readNode 57 = .ok (.iload 4, 2) := by decide +kernel
theorem dM_readNode_59 : decode cM_readNode 59 = .ok (.bipush 60, 2) := by decide +kernel
theorem dM_readNode_61 : decode cM_readNode 61 = .ok (.if_icmp .le 11, 3) := by decide +kernel
theorem dM_readNode_64 : decode cM_readNode 64 = .ok (.aload_n 0, 1) := by decide +kernel
theorem dM_readNode_65 : decode cM_readNode 65 = .ok (.iconst 5, 1) := by decide +kernel
theorem dM_readNode_66 : decode cM_readNode 66 = .ok (.iload_n 2, 1) := by decide +kernel
theorem dM_readNode_67 : decode cM_readNode 67 = .ok (.invokevirtual 171, 3) := by decide +kernel
theorem dM_readNode_70 : decode cM_readNode 70 = .ok (.istore 5, 2) := by decide +kernel
theorem dM_readNode_72 : decode cM_readNode 72 = .ok (.aload_n 0, 1) := by decide +kernel
theorem dM_readNode_73 : decode cM_readNode 73 = .ok (.getfield 165, 3) := by decide +kernel
theorem dM_readNode_76 : decode cM_readNode 76 = .ok (.ifCond .ne 22, 3) := by decide +kernel
theorem dM_readNode_79 : decode cM_readNode 79 = .ok (.aload_n 0, 1) := by decide +kernel
theorem dM_readNode_80 : decode cM_readNode 80 = .ok (.getfield 84, 3) := by decide +kernel
theorem dM_readNode_83 : decode cM_readNode 83 = .ok (.sipush 200, 3) := by decide +kernel
theorem dM_readNode_86 : decode cM_readNode 86 = .ok (.if_icmp .ne 12, 3) := by decide +kernel
theorem dM_readNode_89 : decode cM_readNode 89 = .ok (.aload_n 0, 1) := by decide +kernel
theorem dM_readNode_90 : decode cM_readNode 90 = .ok (.bipush 6, 2) := by decide +kernel
theorem dM_readNode_92 : decode cM_readNode 92 = .ok (.iload_n 2, 1) := by decide +kernel
theorem dM_readNode_93 : decode cM_readNode 93 = .ok (.invokevirtual 171, 3) := by decide +kernel
theorem dM_readNode_96 : decode cM_readNode 96 = .ok (.istore 5, 2) := by decide +kernel
theorem dM_readNode_98 : decode cM_readNode 98 = .ok (.aload_n 0, 1) := by decide +kernel
theorem dM_readNode_99 : decode cM_readNode 99 = .ok (.getfield 165, 3) := by decide +kernel
theorem dM_readNode_102 : decode cM_readNode 102 = .ok (.ifCond .le 4, 3) := by decide +kernel
theorem dM_readNode_105 : decode cM_readNode 105 = .ok (.return_, 1) := by decide +kernel
theorem dM_readNode_106 : decode cM_readNode 106 = .ok (.iload_n 1, 1) := by decide +kernel
theorem dM_readNode_107 : decode cM_readNode 107 = .ok (.ifCond .ge 7, 3) := by decide +kernel
theorem dM_readNode_110 : decode cM_readNode 110 = .ok (.iconst 0, 1) := by decide +kernel
theorem dM_readNode_111 : decode cM_readNode 111 = .ok (.goto 9, 3) := by decide +kernel
theorem dM_readNode_114 : decode cM_readNode 114 = .ok (.aload_n 0, 1) := by decide +kernel
theorem dM_readNode_115 : decode cM_readNode 115 = .ok (.getfield 71, 3) := by decide +kernel
theorem dM_readNode_118 : decode cM_readNode 118 = .ok (.iload_n 1, 1) := by decide +kernel
theorem dM_readNode_119 : decode cM_readNode 119 = .ok (.iaload, 1) := by decide +kernel
theorem dM_readNode_120 : decode cM_readNode 120 = .ok (.istore 5, 2) := by decide +kernel
theorem dM_readNode_122 : decode cM_readNode 122 = .ok (.aload_n 0, 1) := by decide +kernel
theorem dM_readNode_123 : decode cM_readNode 123 = .ok (.iload_n 3, 1) := by decide +kernel
theorem dM_readNode_124 : decode cM_readNode 124 = .ok (.lconst 0, 1) := by decide +kernel
theorem dM_readNode_125 : decode cM_readNode 125 = .ok (.invokevirtual 115, 3) := by decide +kernel
theorem dM_readNode_128 : decode cM_readNode 128 = .ok (.istore 6, 2) := by decide +kernel
theorem dM_readNode_130 : decode cM_readNode 130 = .ok (.aload_n 0, 1) := by decide +kernel
theorem dM_readNode_131 : decode cM_readNode 131 = .ok (.getfield 62, 3) := by decide +kernel
theorem dM_readNode_134 : decode cM_readNode 134 = .ok (.aload_n 0, 1) := by decide +kernel
theorem dM_readNode_135 : decode cM_readNode 135 = .ok (.getfield 186, 3) := by decide +kernel
theorem dM_readNode_138 : decode cM_readNode 138 = .ok (.iload 6, 2) := by decide +kernel
theorem dM_readNode_140 : decode cM_readNode 140 = .ok (.iastore, 1) := by decide +kernel
theorem dM_readNode_141 : decode cM_readNode 141 = .ok (.aload_n 0, 1) := by decide +kernel
theorem dM_readNode_142 : decode cM_readNode 142 = .ok (.getfield 68, 3) := by decide +kernel
theorem dM_readNode_145 : decode cM_readNode 145 = .ok (.aload_n 0, 1) := by decide +kernel
theorem dM_readNode_146 : decode cM_readNode 146 = .ok (.getfield 186, 3) := by decide +kernel
theorem dM_readNode_149 : decode cM_readNode 149 = .ok (.iload 4, 2) := by decide +kernel
theorem dM_readNode_151 : decode cM_readNode 151 = .ok (.iastore, 1) := by decide +kernel
theorem dM_readNode_152 : decode cM_readNode 152 = .ok (.aload_n 0, 1) := by decide +kernel
theorem dM_readNode_153 : decode cM_readNode 153 = .ok (.getfield 71, 3) := by decide +kernel
theorem dM_readNode_156 : decode cM_readNode 156 = .ok (.aload_n 0, 1) := by decide +kernel
theorem dM_readNode_157 : decode cM_readNode 157 = .ok (.getfield 186, 3) := by decide +kernel
theorem dM_readNode_160 : decode cM_readNode 160 = .ok (.iload 5, 2) := by decide +kernel
theorem dM_readNode_162 : decode cM_readNode 162 = .ok (.iload_n 3, 1) := by decide +kernel
theorem dM_readNode_163 : decode cM_readNode 163 = .ok (.iconst 1, 1) := by decide +kernel
theorem dM_readNode_164 : decode cM_readNode 164 = .ok (.if_icmp .ne 7, 3) := by decide +kernel
theorem dM_readNode_167 : decode cM_readNode 167 = .ok (.iconst 1, 1) := by decide +kernel
theorem dM_readNode_168 : decode cM_readNode 168 = .ok (.goto 4, 3) := by decide +kernel
theorem dM_readNode_171 : decode cM_readNode 171 = .ok (.iconst 0, 1) := by decide +kernel
theorem dM_readNode_172 : decode cM_readNode 172 = .ok (.iadd, 1) := by decide +kernel
theorem dM_readNode_173 : decode cM_readNode 173 = .ok (.iastore, 1) := by decide +kernel
theorem dM_readNode_174 : decode cM_readNode 174 = .ok (.aload_n 0, 1) := by decide +kernel
theorem dM_readNode_175 : decode cM_readNode 175 = .ok (.getfield 74, 3) := by decide +kernel
theorem dM_readNode_178 : decode cM_readNode 178 = .ok (.aload_n 0, 1) := by decide +kernel
theorem dM_readNode_179 : decode cM_readNode 179 = .ok (.getfield 186, 3) := by decide +kernel
theorem dM_readNode_182 : decode cM_readNode 182 = .ok (.iload_n 3, 1) := by decide +kernel
theorem dM_readNode_183 : decode cM_readNode 183 = .ok (.invokestatic 109, 3) := by decide +kernel
theorem dM_readNode_186 : decode cM_readNode 186 = .ok (.iastore, 1) := by decide +kernel
theorem dM_readNode_187 : decode cM_readNode 187 = .ok (.aload_n 0, 1) := by decide +kernel
theorem dM_readNode_188 : decode cM_readNode 188 = .ok (.dup, 1) := by decide +kernel
theorem dM_readNode_189 : decode cM_readNode 189 = .ok (.getfield 186, 3) := by decide +kernel
theorem dM_readNode_192 : decode cM_readNode 192 = .ok (.iconst 1, 1) := by decide +kernel
theorem dM_readNode_193 : decode cM_readNode 193 = .ok (.iadd, 1) := by decide +kernel
theorem dM_readNode_194 : decode cM_readNode 194 = .ok (.putfield 186, 3) := by decide +kernel
theorem dM_readNode_197 : decode cM_readNode 197 = .ok (.iload_n 3, 1) := by decide +kernel
theorem dM_readNode_198 : decode cM_readNode 198 = .ok (.ifCond .ne 88, 3) := by decide +kernel
theorem dM_readNode_201 : decode cM_readNode 201 = .ok (.aload_n 0, 1) := by decide +kernel
theorem dM_readNode_202 : decode cM_readNode 202 = .ok (.getfield 17, 3) := by decide +kernel
theorem dM_readNode_205 : decode cM_readNode 205 = .ok (.iload 6, 2) := by decide +kernel
theorem dM_readNode_207 : decode cM_readNode 207 = .ok (.aload_n 0, 1) := by decide +kernel
theorem dM_readNode_208 : decode cM_readNode 208 = .ok (.invokevirtual 189, 3) := by decide +kernel
theorem dM_readNode_211 : decode cM_readNode 211 = .ok (.lastore, 1) := by decide +kernel
theorem dM_readNode_212 : decode cM_readNode 212 = .ok (.aload_n 0, 1) := by decide +kernel
theorem dM_readNode_213 : decode cM_readNode 213 = .ok (.aload_n 0, 1) := by decide +kernel
theorem dM_readNode_214 : decode cM_readNode 214 = .ok (.getfield 165, 3) := by decide +kernel
theorem dM_readNode_217 : decode cM_readNode 217 = .ok (.ifCond .gt 29, 3) := by decide +kernel
theorem dM_readNode_220 : decode cM_readNode 220 = .ok (.aload_n 0, 1) := by decide +kernel
theorem dM_readNode_221 : decode cM_readNode 221 = .ok (.getfield 17, 3) := by decide +kernel
theorem dM_readNode_224 : decode cM_readNode 224 = .ok (.iload 6, 2) := by decide +kernel
theorem dM_readNode_226 : decode cM_readNode 226 = .ok (.laload, 1) := by decide +kernel
theorem dM_readNode_227 : decode cM_readNode 227 = .ok (.lconst 1, 1) := by decide +kernel
theorem dM_readNode_228 : decode cM_readNode 228 = .ok (.lcmp, 1) := by decide +kernel
theorem dM_readNode_229 : decode cM_readNode 229 = .ok (.ifCond .lt 21, 3) := by decide +kernel
theorem dM_readNode_232 : decode cM_readNode 232 = .ok (.aload_n 0, 1) := by decide +kernel
theorem dM_readNode_233 : decode cM_readNode 233 = .ok (.getfield 17, 3) := by decide +kernel
theorem dM_readNode_236 : decode cM_readNode 236 = .ok (.iload 6, 2) := by decide +kernel
theorem dM_readNode_238 : decode cM_readNode 238 = .ok (.laload, 1) := by decide +kernel
theorem dM_readNode_239 : decode cM_readNode 239 = .ok (.ldc2_w 97, 3) := by decide +kernel
theorem dM_readNode_242 : decode cM_readNode 242 = .ok (.lcmp, 1) := by decide +kernel
theorem dM_readNode_243 : decode cM_readNode 243 = .ok (.ifCond .gt 7, 3) := by decide +kernel
theorem dM_readNode_246 : decode cM_readNode 246 = .ok (.iconst 1, 1) := by decide +kernel
theorem dM_readNode_247 : decode cM_readNode 247 = .ok (.goto 4, 3) := by decide +kernel
theorem dM_readNode_250 : decode cM_readNode 250 = .ok (.iconst 0, 1) := by decide +kernel
theorem dM_readNode_251 : decode cM_readNode 251 = .ok (.invokevirtual 182, 3) := by decide +kernel
theorem dM_readNode_254 : decode cM_readNode 254 = .ok (.aload_n 0, 1) := by decide +kernel
theorem dM_readNode_255 : decode cM_readNode 255 = .ok (.getfield 165, 3) := by decide +kernel
theorem dM_readNode_258 : decode cM_readNode 258 = .ok (.ifCond .ne 187, 3) := by decide +kernel
theorem dM_readNode_261 : decode cM_readNode 261 = .ok (.aload_n 0, 1) := by decide +kernel
theorem dM_readNode_262 : decode cM_readNode 262 = .ok (.getfield 17, 3) := by decide +kernel
theorem dM_readNode_265 : decode cM_readNode 265 = .ok (.iload 6, 2) := by decide +kernel
theorem dM_readNode_267 : decode cM_readNode 267 = .ok (.laload, 1) := by decide +kernel
theorem dM_readNode_268 : decode cM_readNode 268 = .ok (.iload 5, 2) := by decide +kernel
theorem dM_readNode_270 : decode cM_readNode 270 = .ok (.i2l, 1) := by decide +kernel
theorem dM_readNode_271 : decode cM_readNode 271 = .ok (.lcmp, 1) := by decide +kernel
theorem dM_readNode_272 : decode cM_readNode 272 = .ok (.ifCond .le 173, 3) := by decide +kernel
theorem dM_readNode_275 : decode cM_readNode 275 = .ok (.aload_n 0, 1) := by decide +kernel
theorem dM_readNode_276 : decode cM_readNode 276 = .ok (.iconst 4, 1) := by decide +kernel
theorem dM_readNode_277 : decode cM_readNode 277 = .ok (.iload_n 2, 1) := by decide +kernel
theorem dM_readNode_278 : decode cM_readNode 278 = .ok (.invokevirtual 171, 3) := by decide +kernel
theorem dM_readNode_281 : decode cM_readNode 281 = .ok (.istore 7, 2) := by decide +kernel
theorem dM_readNode_283 : decode cM_readNode 283 = .ok (.goto 162, 3) := by decide +kernel
theorem dM_readNode_286 : decode cM_readNode 286 = .ok (.iload_n 3, 1) := by decide +kernel
theorem dM_readNode_287 : decode cM_readNode 287 = .ok (.bipush 6, 2) := by decide +kernel
theorem dM_readNode_289 : decode cM_readNode 289 = .ok (.if_icmp .eq 9, 3) := by decide +kernel
theorem dM_readNode_292 : decode cM_readNode 292 = .ok (.iload_n 3, 1) := by decide +kernel
theorem dM_readNode_293 : decode cM_readNode 293 = .ok (.bipush 9, 2) := by decide +kernel
theorem dM_readNode_295 : decode cM_readNode 295 = .ok (.if_icmp .ne 60, 3) := by decide +kernel
theorem dM_readNode_298 : decode cM_readNode 298 = .ok (.aload_n 0, 1) := by decide +kernel
theorem dM_readNode_299 : decode cM_readNode 299 = .ok (.getfield 17, 3) := by decide +kernel
theorem dM_readNode_302 : decode cM_readNode 302 = .ok (.iload 6, 2) := by decide +kernel
theorem dM_readNode_304 : decode cM_readNode 304 = .ok (.aload_n 0, 1) := by decide +kernel
theorem dM_readNode_305 : decode cM_readNode 305 = .ok (.invokevirtual 175, 3) := by decide +kernel
theorem dM_readNode_308 : decode cM_readNode 308 = .ok (.i2l, 1) := by decide +kernel
theorem dM_readNode_309 : decode cM_readNode 309 = .ok (.lastore, 1) := by decide +kernel
theorem dM_readNode_310 : decode cM_readNode 310 = .ok (.aload_n 0, 1) := by decide +kernel
theorem dM_readNode_311 : decode cM_readNode 311 = .ok (.aload_n 0, 1) := by decide +kernel
theorem dM_readNode_312 : decode cM_readNode 312 = .ok (.getfield 165, 3) := by decide +kernel
theorem dM_readNode_315 : decode cM_readNode 315 = .ok (.ifCond .gt 29, 3) := by decide +kernel
theorem dM_readNode_318 : decode cM_readNode 318 = .ok (.aload_n 0, 1) := by decide +kernel
theorem dM_readNode_319 : decode cM_readNode 319 = .ok (.getfield 17, 3) := by decide +kernel
theorem dM_readNode_322 : decode cM_readNode 322 = .ok (.iload 6, 2) := by decide +kernel
theorem dM_readNode_324 : decode cM_readNode 324 = .ok (.laload, 1) := by decide +kernel
theorem dM_readNode_325 : decode cM_readNode 325 = .ok (.iload_n 3, 1) := by decide +kernel
theorem dM_readNode_326 : decode cM_readNode 326 = .ok (.bipush 6, 2) := by decide +kernel
theorem dM_readNode_328 : decode cM_readNode 328 = .ok (.if_icmp .ne 9, 3) := by decide +kernel
theorem dM_readNode_331 : decode cM_readNode 331 = .ok (.ldc2_w 193, 3) := by decide +kernel
theorem dM_readNode_334 : decode cM_readNode 334 = .ok (.goto 6, 3) := by decide +kernel
theorem dM_readNode_337 : decode cM_readNode 337 = .ok (.ldc2_w 195, 3) := by decide +kernel
theorem dM_readNode_340 : decode cM_readNode 340 = .ok (.lcmp, 1) := by decide +kernel
theorem dM_readNode_341 : decode cM_readNode 341 = .ok (.ifCond .ge 7, 3) := by decide +kernel
theorem dM_readNode_344 : decode cM_readNode 344 = .ok (.iconst 1, 1) := by decide +kernel
theorem dM_readNode_345 : decode cM_readNode 345 = .ok (.goto 4, 3) := by decide +kernel
theorem dM_readNode_348 : decode cM_readNode 348 = .ok (.iconst 0, 1) := by decide +kernel
theorem dM_readNode_349 : decode cM_readNode 349 = .ok (.invokevirtual 182, 3) := by decide +kernel
theorem dM_readNode_352 : decode cM_readNode 352 = .ok (.goto 93, 3) := by decide +kernel
theorem dM_readNode_355 : decode cM_readNode 355 = .ok (.iload_n 3, 1) := by decide +kernel
theorem dM_readNode_356 : decode cM_readNode 356 = .ok (.bipush 7, 2) := by decide +kernel
theorem dM_readNode_358 : decode cM_readNode 358 = .ok (.if_icmp .ne 17, 3) := by decide +kernel
theorem dM_readNode_361 : decode cM_readNode 361 = .ok (.aload_n 0, 1) := by decide +kernel
theorem dM_readNode_362 : decode cM_readNode 362 = .ok (.getfield 17, 3) := by decide +kernel
theorem dM_readNode_365 : decode cM_readNode 365 = .ok (.iload 6, 2) := by decide +kernel
theorem dM_readNode_367 : decode cM_readNode 367 = .ok (.aload_n 0, 1) := by decide +kernel
theorem dM_readNode_368 : decode cM_readNode 368 = .ok (.invokevirtual 197, 3) := by decide +kernel
theorem dM_readNode_371 : decode cM_readNode 371 = .ok (.lastore, 1) := by decide +kernel
theorem dM_readNode_372 : decode cM_readNode 372 = .ok (.goto 73, 3) := by decide +kernel
theorem dM_readNode_375 : decode cM_readNode 375 = .ok (.iload_n 3, 1) := by decide +kernel
theorem dM_readNode_376 : decode cM_readNode 376 = .ok (.bipush 8, 2) := by decide +kernel
theorem dM_readNode_378 : decode cM_readNode 378 = .ok (.if_icmp .ne 67, 3) := by decide +kernel
theorem dM_readNode_381 : decode cM_readNode 381 = .ok (.aload_n 0, 1) := by decide +kernel
theorem dM_readNode_382 : decode cM_readNode 382 = .ok (.invokevirtual 175, 3) := by decide +kernel
theorem dM_readNode_385 : decode cM_readNode 385 = .ok (.istore 7, 2) := by decide +kernel
theorem dM_readNode_387 : decode cM_readNode 387 = .ok (.aload_n 0, 1) := by decide +kernel
theorem dM_readNode_388 : decode cM_readNode 388 = .ok (.aload_n 0, 1) := by decide +kernel
theorem dM_readNode_389 : decode cM_readNode 389 = .ok (.getfield 165, 3) := by decide +kernel
theorem dM_readNode_392 : decode cM_readNode 392 = .ok (.ifCond .gt 10, 3) := by decide +kernel
theorem dM_readNode_395 : decode cM_readNode 395 = .ok (.iload 7, 2) := by decide +kernel
theorem dM_readNode_397 : decode cM_readNode 397 = .ok (.bipush 64, 2) := by decide +kernel
theorem dM_readNode_399 : decode cM_readNode 399 = .ok (.if_icmp .gt 7, 3) := by decide +kernel
theorem dM_readNode_402 : decode cM_readNode 402 = .ok (.iconst 1, 1) := by decide +kernel
theorem dM_readNode_403 : decode cM_readNode 403 = .ok (.goto 4, 3) := by decide +kernel
theorem dM_readNode_406 : decode cM_readNode 406 = .ok (.iconst 0, 1) := by decide +kernel
theorem dM_readNode_407 : decode cM_readNode 407 = .ok (.invokevirtual 182, 3) := by decide +kernel
theorem dM_readNode_410 : decode cM_readNode 410 = .ok (.iconst 0, 1) := by decide +kernel
theorem dM_readNode_411 : decode cM_readNode 411 = .ok (.istore 8, 2) := by decide +kernel
theorem dM_readNode_413 : decode cM_readNode 413 = .ok (.iload 8, 2) := by decide +kernel
theorem dM_readNode_415 : decode cM_readNode 415 = .ok (.iload 7, 2) := by decide +kernel
theorem dM_readNode_417 : decode cM_readNode 417 = .ok (.if_icmp .ge 28, 3) := by decide +kernel
theorem dM_readNode_420 : decode cM_readNode 420 = .ok (.aload_n 0, 1) := by decide +kernel
theorem dM_readNode_421 : decode cM_readNode 421 = .ok (.getfield 165, 3) := by decide +kernel
theorem dM_readNode_424 : decode cM_readNode 424 = .ok (.ifCond .ne 21, 3) := by decide +kernel
theorem dM_readNode_427 : decode cM_readNode 427 = .ok (.aload_n 0, 1) := by decide +kernel
theorem dM_readNode_428 : decode cM_readNode 428 = .ok (.iload 6, 2) := by decide +kernel
theorem dM_readNode_430 : decode cM_readNode 430 = .ok (.aload_n 0, 1) := by decide +kernel
theorem dM_readNode_431 : decode cM_readNode 431 = .ok (.invokevirtual 175, 3) := by decide +kernel
theorem dM_readNode_434 : decode cM_readNode 434 = .ok (.i2l, 1) := by decide +kernel
theorem dM_readNode_435 : decode cM_readNode 435 = .ok (.iconst 1, 1) := by decide +kernel
theorem dM_readNode_436 : decode cM_readNode 436 = .ok (.invokevirtual 119, 3) := by decide +kernel
theorem dM_readNode_439 : decode cM_readNode 439 = .ok (.iinc 8 1, 3) := by decide +kernel
theorem dM_readNode_442 : decode cM_readNode 442 = .ok (.goto (-29), 3) := by decide +kernel
theorem dM_readNode_445 : decode cM_readNode 445 = .ok (.iload_n 1, 1) := by decide +kernel
theorem dM_readNode_446 : decode cM_readNode 446 = .ok (.ifCond .lt 52, 3) := by decide +kernel
theorem dM_readNode_449 : decode cM_readNode 449 = .ok (.aload_n 0, 1) := by decide +kernel
theorem dM_readNode_450 : decode cM_readNode 450 = .ok (.getfield 62, 3) := by decide +kernel
theorem dM_readNode_453 : decode cM_readNode 453 = .ok (.iload_n 1, 1) := by decide +kernel
theorem dM_readNode_454 : decode cM_readNode 454 = .ok (.iaload, 1) := by decide +kernel
theorem dM_readNode_455 : decode cM_readNode 455 = .ok (.istore 7, 2) := by decide +kernel
theorem dM_readNode_457 : decode cM_readNode 457 = .ok (.aload_n 0, 1) := by decide +kernel
theorem dM_readNode_458 : decode cM_readNode 458 = .ok (.getfield 74, 3) := by decide +kernel
theorem dM_readNode_461 : decode cM_readNode 461 = .ok (.iload_n 1, 1) := by decide +kernel
theorem dM_readNode_462 : decode cM_readNode 462 = .ok (.dup2, 1) := by decide +kernel
theorem dM_readNode_463 : decode cM_readNode 463 = .ok (.iaload, 1) := by decide +kernel
theorem dM_readNode_464 : decode cM_readNode 464 = .ok (.iconst 1, 1) := by decide +kernel
theorem dM_readNode_465 : decode cM_readNode 465 = .ok (.isub, 1) := by decide +kernel
theorem dM_readNode_466 : decode cM_readNode 466 = .ok (.iastore, 1) := by decide +kernel
theorem dM_readNode_467 : decode cM_readNode 467 = .ok (.aload_n 0, 1) := by decide +kernel
theorem dM_readNode_468 : decode cM_readNode 468 = .ok (.getfield 21, 3) := by decide +kernel
theorem dM_readNode_471 : decode cM_readNode 471 = .ok (.iload 7, 2) := by decide +kernel
theorem dM_readNode_473 : decode cM_readNode 473 = .ok (.iaload, 1) := by decide +kernel
theorem dM_readNode_474 : decode cM_readNode 474 = .ok (.ifCond .ge 15, 3) := by decide +kernel
theorem dM_readNode_477 : decode cM_readNode 477 = .ok (.aload_n 0, 1) := by decide +kernel
theorem dM_readNode_478 : decode cM_readNode 478 = .ok (.getfield 21, 3) := by decide +kernel
theorem dM_readNode_481 : decode cM_readNode 481 = .ok (.iload 7, 2) := by decide +kernel
theorem dM_readNode_483 : decode cM_readNode 483 = .ok (.iload 6, 2) := by decide +kernel
theorem dM_readNode_485 : decode cM_readNode 485 = .ok (.iastore, 1) := by decide +kernel
theorem dM_readNode_486 : decode cM_readNode 486 = .ok (.goto 12, 3) := by decide +kernel
theorem dM_readNode_489 : decode cM_readNode 489 = .ok (.aload_n 0, 1) := by decide +kernel
theorem dM_readNode_490 : decode cM_readNode 490 = .ok (.getfield 24, 3) := by decide +kernel
theorem dM_readNode_493 : decode cM_readNode 493 = .ok (.iload 7, 2) := by decide +kernel
theorem dM_readNode_495 : decode cM_readNode 495 = .ok (.iload 6, 2) := by decide +kernel
theorem dM_readNode_497 : decode cM_readNode 497 = .ok (.iastore, 1) := by decide +kernel
theorem dM_readNode_498 : decode cM_readNode 498 = .ok (.return_, 1) := by decide +kernel
theorem dM_open_0 : decode cM_open 0 = .ok (.aload_n 0, 1) := by decide +kernel
theorem dM_open_1 : decode cM_open 1 = .ok (.getfield 186, 3) := by decide +kernel
theorem dM_open_4 : decode cM_open 4 = .ok (.iconst 1, 1) := by decide +kernel
theorem dM_open_5 : decode cM_open 5 = .ok (.isub, 1) := by decide +kernel
theorem dM_open_6 : decode cM_open 6 = .ok (.istore_n 1, 1) := by decide +kernel
theorem dM_open_7 : decode cM_open 7 = .ok (.iload_n 1, 1) := by decide +kernel
theorem dM_open_8 : decode cM_open 8 = .ok (.ifCond .lt 18, 3) := by decide +kernel
theorem dM_open_11 : decode cM_open 11 = .ok (.aload_n 0, 1) := by decide +kernel
theorem dM_open_12 : decode cM_open 12 = .ok (.getfield 74, 3) := by decide +kernel
theorem dM_open_15 : decode cM_open 15 = .ok (.iload_n 1, 1) := by decide +kernel
theorem dM_open_16 : decode cM_open 16 = .ok (.iaload, 1) := by decide +kernel
theorem dM_open_17 : decode cM_open 17 = .ok (.ifCond .ne 9, 3) := by decide +kernel
theorem dM_open_20 : decode cM_open 20 = .ok (.iinc 1 (-1), 3) := by decide +kernel
theorem dM_open_23 : decode cM_open 23 = .ok (.goto (-16), 3) := by decide +kernel
theorem dM_open_26 : decode cM_open 26 = .ok (.iload_n 1, 1) := by decide +kernel
theorem dM_open_27 : decode cM_open 27 = .ok (.ireturn, 1) := by decide +kernel
theorem dM_read_0 : decode cM_read 0 = .ok (.aload_n 0, 1) := by decide +kernel
theorem dM_read_1 : decode cM_read 1 = .ok (.iconst 0, 1) := by decide +kernel
theorem dM_read_2 : decode cM_read 2 = .ok (.putfield 77, 3) := by decide +kernel
theorem dM_read_5 : decode cM_read 5 = .ok (.aload_n 0, 1) := by decide +kernel
theorem dM_read_6 : decode cM_read 6 = .ok (.getfield 162, 3) := by decide +kernel
theorem dM_read_9 : decode cM_read 9 = .ok (.aload_n 0, 1) := by decide +kernel
theorem dM_read_10 : decode cM_read 10 = .ok (.getfield 159, 3) := by decide +kernel
theorem dM_read_13 : decode cM_read 13 = .ok (.if_icmp .ne 5, 3) := by decide +kernel
theorem dM_read_16 : decode cM_read 16 = .ok (.iconst (-1), 1) := by decide +kernel
theorem dM_read_17 : decode cM_read 17 = .ok (.ireturn, 1) := by decide +kernel
theorem dM_read_18 : decode cM_read 18 = .ok (.aload_n 0, 1) := by decide +kernel
theorem dM_read_19 : decode cM_read 19 = .ok (.iconst 0, 1) := by decide +kernel
theorem dM_read_20 : decode cM_read 20 = .ok (.putfield 165, 3) := by decide +kernel
theorem dM_read_23 : decode cM_read 23 = .ok (.aload_n 0, 1) := by decide +kernel
theorem dM_read_24 : decode cM_read 24 = .ok (.iconst (-1), 1) := by decide +kernel
theorem dM_read_25 : decode cM_read 25 = .ok (.putfield 40, 3) := by decide +kernel
theorem dM_read_28 : decode cM_read 28 = .ok (.aload_n 0, 1) := by decide +kernel
theorem dM_read_29 : decode cM_read 29 = .ok (.aload_n 0, 1) := by decide +kernel
theorem dM_read_30 : decode cM_read 30 = .ok (.getfield 162, 3) := by decide +kernel
theorem dM_read_33 : decode cM_read 33 = .ok (.putfield 168, 3) := by decide +kernel
theorem dM_read_36 : decode cM_read 36 = .ok (.aload_n 0, 1) := by decide +kernel
theorem dM_read_37 : decode cM_read 37 = .ok (.iconst 0, 1) := by decide +kernel
theorem dM_read_38 : decode cM_read 38 = .ok (.putfield 186, 3) := by decide +kernel
theorem dM_read_41 : decode cM_read 41 = .ok (.aload_n 0, 1) := by decide +kernel
theorem dM_read_42 : decode cM_read 42 = .ok (.iconst (-1), 1) := by decide +kernel
theorem dM_read_43 : decode cM_read 43 = .ok (.invokevirtual 200, 3) := by decide +kernel
theorem dM_read_46 : decode cM_read 46 = .ok (.aload_n 0, 1) := by decide +kernel
theorem dM_read_47 : decode cM_read 47 = .ok (.invokevirtual 203, 3) := by decide +kernel
theorem dM_read_50 : decode cM_read 50 = .ok (.istore_n 1, 1) := by decide +kernel
theorem dM_read_51 : decode cM_read 51 = .ok (.iload_n 1, 1) := by decide +kernel
theorem dM_read_52 : decode cM_read 52 = .ok (.ifCond .lt 23, 3) := by decide +kernel
theorem dM_read_55 : decode cM_read 55 = .ok (.aload_n 0, 1) := by decide +kernel
theorem dM_read_56 : decode cM_read 56 = .ok (.getfield 165, 3) := by decide +kernel
theorem dM_read_59 : decode cM_read 59 = .ok (.ifCond .ne 16, 3) := by decide +kernel
theorem dM_read_62 : decode cM_read 62 = .ok (.aload_n 0, 1) := by decide +kernel
theorem dM_read_63 : decode cM_read 63 = .ok (.iload_n 1, 1) := by decide +kernel
theorem dM_read_64 : decode cM_read 64 = .ok (.invokevirtual 200, 3) := by decide +kernel
theorem dM_read_67 : decode cM_read 67 = .ok (.aload_n 0, 1) := by decide +kernel
theorem dM_read_68 : decode cM_read 68 = .ok (.invokevirtual 203, 3) := by decide +kernel
theorem dM_read_71 : decode cM_read 71 = .ok (.istore_n 1, 1) := by decide +kernel
theorem dM_read_72 : decode cM_read 72 = .ok (.goto (-21), 3) := by decide +kernel
theorem dM_read_75 : decode cM_read 75 = .ok (.aload_n 0, 1) := by decide +kernel
theorem dM_read_76 : decode cM_read 76 = .ok (.getfield 165, 3) := by decide +kernel
theorem dM_read_79 : decode cM_read 79 = .ok (.ifCond .le 34, 3) := by decide +kernel
theorem dM_read_82 : decode cM_read 82 = .ok (.iconst 0, 1) := by decide +kernel
theorem dM_read_83 : decode cM_read 83 = .ok (.istore_n 1, 1) := by decide +kernel
theorem dM_read_84 : decode cM_read 84 = .ok (.iload_n 1, 1) := by decide +kernel
theorem dM_read_85 : decode cM_read 85 = .ok (.aload_n 0, 1) := by decide +kernel
theorem dM_read_86 : decode cM_read 86 = .ok (.getfield 186, 3) := by decide +kernel
theorem dM_read_89 : decode cM_read 89 = .ok (.if_icmp .ge 19, 3) := by decide +kernel
theorem dM_read_92 : decode cM_read 92 = .ok (.aload_n 0, 1) := by decide +kernel
theorem dM_read_93 : decode cM_read 93 = .ok (.aload_n 0, 1) := by decide +kernel
theorem dM_read_94 : decode cM_read 94 = .ok (.getfield 62, 3) := by decide +kernel
theorem dM_read_97 : decode cM_read 97 = .ok (.iload_n 1, 1) := by decide +kernel
theorem dM_read_98 : decode cM_read 98 = .ok (.iaload, 1) := by decide +kernel
theorem dM_read_99 : decode cM_read 99 = .ok (.invokevirtual 125, 3) := by decide +kernel
theorem dM_read_102 : decode cM_read 102 = .ok (.iinc 1 1, 3) := by decide +kernel
theorem dM_read_105 : decode cM_read 105 = .ok (.goto (-21), 3) := by decide +kernel
theorem dM_read_108 : decode cM_read 108 = .ok (.aload_n 0, 1) := by decide +kernel
theorem dM_read_109 : decode cM_read 109 = .ok (.getfield 165, 3) := by decide +kernel
theorem dM_read_112 : decode cM_read 112 = .ok (.ireturn, 1) := by decide +kernel
theorem dM_read_113 : decode cM_read 113 = .ok (.aload_n 0, 1) := by decide +kernel
theorem dM_read_114 : decode cM_read 114 = .ok (.aload_n 0, 1) := by decide +kernel
theorem dM_read_115 : decode cM_read 115 = .ok (.getfield 168, 3) := by decide +kernel
theorem dM_read_118 : decode cM_read 118 = .ok (.putfield 162, 3) := by decide +kernel
theorem dM_read_121 : decode cM_read 121 = .ok (.aload_n 0, 1) := by decide +kernel
theorem dM_read_122 : decode cM_read 122 = .ok (.getfield 31, 3) := by decide +kernel
theorem dM_read_125 : decode cM_read 125 = .ok (.aload_n 0, 1) := by decide +kernel
theorem dM_read_126 : decode cM_read 126 = .ok (.getfield 94, 3) := by decide +kernel
theorem dM_read_129 : decode cM_read 129 = .ok (.aload_n 0, 1) := by decide +kernel
theorem dM_read_130 : decode cM_read 130 = .ok (.getfield 62, 3) := by decide +kernel
theorem dM_read_133 : decode cM_read 133 = .ok (.iconst 0, 1) := by decide +kernel
theorem dM_read_134 : decode cM_read 134 = .ok (.iaload, 1) := by decide +kernel
theorem dM_read_135 : decode cM_read 135 = .ok (.iastore, 1) := by decide +kernel
theorem dM_read_136 : decode cM_read 136 = .ok (.aload_n 0, 1) := by decide +kernel
theorem dM_read_137 : decode cM_read 137 = .ok (.dup, 1) := by decide +kernel
theorem dM_read_138 : decode cM_read 138 = .ok (.getfield 94, 3) := by decide +kernel
theorem dM_read_141 : decode cM_read 141 = .ok (.iconst 1, 1) := by decide +kernel
theorem dM_read_142 : decode cM_read 142 = .ok (.iadd, 1) := by decide +kernel
theorem dM_read_143 : decode cM_read 143 = .ok (.putfield 94, 3) := by decide +kernel
theorem dM_read_146 : decode cM_read 146 = .ok (.iconst 0, 1) := by decide +kernel
theorem dM_read_147 : decode cM_read 147 = .ok (.ireturn, 1) := by decide +kernel
theorem dM_isNode_0 : decode cM_isNode 0 = .ok (.aload_n 0, 1) := by decide +kernel
theorem dM_isNode_1 : decode cM_isNode 1 = .ok (.getfield 94, 3) := by decide +kernel
theorem dM_isNode_4 : decode cM_isNode 4 = .ok (.ifCond .ne 5, 3) := by decide +kernel
theorem dM_isNode_7 : decode cM_isNode 7 = .ok (.iconst 0, 1) := by decide +kernel
theorem dM_isNode_8 : decode cM_isNode 8 = .ok (.ireturn, 1) := by decide +kernel
theorem dM_isNode_9 : decode cM_isNode 9 = .ok (.aload_n 0, 1) := by decide +kernel
theorem dM_isNode_10 : decode cM_isNode 10 = .ok (.aload_n 0, 1) := by decide +kernel
theorem dM_isNode_11 : decode cM_isNode 11 = .ok (.getfield 31, 3) := by decide +kernel
theorem dM_isNode_14 : decode cM_isNode 14 = .ok (.aload_n 0, 1) := by decide +kernel
theorem dM_isNode_15 : decode cM_isNode 15 = .ok (.getfield 94, 3) := by decide +kernel
theorem dM_isNode_18 : decode cM_isNode 18 = .ok (.iconst 1, 1) := by decide +kernel
theorem dM_isNode_19 : decode cM_isNode 19 = .ok (.isub, 1) := by decide +kernel
theorem dM_isNode_20 : decode cM_isNode 20 = .ok (.iaload, 1) := by decide +kernel
theorem dM_isNode_21 : decode cM_isNode 21 = .ok (.invokevirtual 90, 3) := by decide +kernel
theorem dM_isNode_24 : decode cM_isNode 24 = .ok (.iload_n 1, 1) := by decide +kernel
theorem dM_isNode_25 : decode cM_isNode 25 = .ok (.ifCond .lt 15, 3) := by decide +kernel
theorem dM_isNode_28 : decode cM_isNode 28 = .ok (.iload_n 1, 1) := by decide +kernel
theorem dM_isNode_29 : decode cM_isNode 29 = .ok (.aload_n 0, 1) := by decide +kernel
theorem dM_isNode_30 : decode cM_isNode 30 = .ok (.getfield 87, 3) := by decide +kernel
theorem dM_isNode_33 : decode cM_isNode 33 = .ok (.if_icmp .ge 7, 3) := by decide +kernel
theorem dM_isNode_36 : decode cM_isNode 36 = .ok (.iconst 1, 1) := by decide +kernel
theorem dM_isNode_37 : decode cM_isNode 37 = .ok (.goto 4, 3) := by decide +kernel
theorem dM_isNode_40 : decode cM_isNode 40 = .ok (.iconst 0, 1) := by decide +kernel
theorem dM_isNode_41 : decode cM_isNode 41 = .ok (.ireturn, 1) := by decide +kernel
theorem dM_of_0 : decode cM_of 0 = .ok (.aload_n 0, 1) := by decide +kernel
theorem dM_of_1 : decode cM_of 1 = .ok (.iconst 0, 1) := by decide +kernel
theorem dM_of_2 : decode cM_of 2 = .ok (.putfield 77, 3) := by decide +kernel
theorem dM_of_5 : decode cM_of 5 = .ok (.aload_n 0, 1) := by decide +kernel
theorem dM_of_6 : decode cM_of 6 = .ok (.iload_n 1, 1) := by decide +kernel
theorem dM_of_7 : decode cM_of 7 = .ok (.invokevirtual 206, 3) := by decide +kernel
theorem dM_of_10 : decode cM_of 10 = .ok (.ifCond .ne 5, 3) := by decide +kernel
theorem dM_of_13 : decode cM_of 13 = .ok (.iconst (-1), 1) := by decide +kernel
theorem dM_of_14 : decode cM_of 14 = .ok (.ireturn, 1) := by decide +kernel
theorem dM_of_15 : decode cM_of 15 = .ok (.aload_n 0, 1) := by decide +kernel
theorem dM_of_16 : decode cM_of 16 = .ok (.iload_n 1, 1) := by decide +kernel
theorem dM_of_17 : decode cM_of 17 = .ok (.invokevirtual 210, 3) := by decide +kernel
theorem dM_of_20 : decode cM_of 20 = .ok (.istore_n 3, 1) := by decide +kernel
theorem dM_of_21 : decode cM_of 21 = .ok (.iconst 0, 1) := by decide +kernel
theorem dM_of_22 : decode cM_of 22 = .ok (.istore 4, 2) := by decide +kernel
theorem dM_of_24 : decode cM_of 24 = .ok (.iconst 0, 1) := by decide +kernel
theorem dM_of_25 : decode cM_of 25 = .ok (.istore 5, 2) := by decide +kernel
theorem dM_of_27 : decode cM_of 27 = .ok (.iload_n 1, 1) := by decide +kernel
theorem dM_of_28 : decode cM_of 28 = .ok (.istore 6, 2) := by decide +kernel
theorem dM_of_30 : decode cM_of 30 = .ok (.iload 6, 2) := by decide +kernel
theorem dM_of_32 : decode cM_of 32 = .ok (.iload_n 1, 1) := by decide +kernel
theorem dM_of_33 : decode cM_of 33 = .ok (.iload_n 3, 1) := by decide +kernel
theorem dM_of_34 : decode cM_of 34 = .ok (.iadd, 1) := by decide +kernel
theorem dM_of_35 : decode cM_of 35 = .ok (.if_icmp .ge 101, 3) := by decide +kernel
theorem dM_of_38 : decode cM_of 38 = .ok (.aload_n 0, 1) := by decide +kernel
theorem dM_of_39 : decode cM_of 39 = .ok (.getfield 50, 3) := by decide +kernel
theorem dM_of_42 : decode cM_of 42 = .ok (.iload 6, 2) := by decide +kernel
theorem dM_of_44 : decode cM_of 44 = .ok (.iaload, 1) := by decide +kernel
theorem dM_of_45 : decode cM_of 45 = .ok (.aload_n 0, 1) := by decide +kernel
theorem dM_of_46 : decode cM_of 46 = .ok (.getfield 50, 3) := by decide +kernel
theorem dM_of_49 : decode cM_of 49 = .ok (.iload_n 1, 1) := by decide +kernel
theorem dM_of_50 : decode cM_of 50 = .ok (.iaload, 1) := by decide +kernel
theorem dM_of_51 : decode cM_of 51 = .ok (.isub, 1) := by decide +kernel
theorem dM_of_52 : decode cM_of 52 = .ok (.iconst 1, 1) := by decide +kernel
theorem dM_of_53 : decode cM_of 53 = .ok (.iadd, 1) := by decide +kernel
theorem dM_of_54 : decode cM_of 54 = .ok (.istore 7, 2) := by decide +kernel
theorem dM_of_56 : decode cM_of 56 = .ok (.iload 7, 2) := by decide +kernel
theorem dM_of_58 : decode cM_of 58 = .ok (.iload 4, 2) := by decide +kernel
theorem dM_of_60 : decode cM_of 60 = .ok (.if_icmp .le 8, 3) := by decide +kernel
theorem dM_of_63 : decode cM_of 63 = .ok (.iload 7, 2) := by decide +kernel
theorem dM_of_65 : decode cM_of 65 = .ok (.goto 5, 3) := by decide +kernel
theorem dM_of_68 : decode cM_of 68 = .ok (.iload 4, 2) := by decide +kernel
theorem dM_of_70 : decode cM_of 70 = .ok (.istore 4, 2) := by decide +kernel
theorem dM_of_72 : decode cM_of 72 = .ok (.aload_n 0, 1) := by decide +kernel
theorem dM_of_73 : decode cM_of 73 = .ok (.getfield 13, 3) := by decide +kernel
theorem dM_of_76 : decode cM_of 76 = .ok (.aload_n 0, 1) := by decide +kernel
theorem dM_of_77 : decode cM_of 77 = .ok (.getfield 44, 3) := by decide +kernel
theorem dM_of_80 : decode cM_of 80 = .ok (.iload 6, 2) := by decide +kernel
theorem dM_of_82 : decode cM_of 82 = .ok (.iaload, 1) := by decide +kernel
theorem dM_of_83 : decode cM_of 83 = .ok (.iaload, 1) := by decide +kernel
theorem dM_of_84 : decode cM_of 84 = .ok (.ifCond .ne 27, 3) := by decide +kernel
theorem dM_of_87 : decode cM_of 87 = .ok (.aload_n 0, 1) := by decide +kernel
theorem dM_of_88 : decode cM_of 88 = .ok (.getfield 17, 3) := by decide +kernel
theorem dM_of_91 : decode cM_of 91 = .ok (.aload_n 0, 1) := by decide +kernel
theorem dM_of_92 : decode cM_of 92 = .ok (.getfield 44, 3) := by decide +kernel
theorem dM_of_95 : decode cM_of 95 = .ok (.iload 6, 2) := by decide +kernel
theorem dM_of_97 : decode cM_of 97 = .ok (.iaload, 1) := by decide +kernel
theorem dM_of_98 : decode cM_of 98 = .ok (.laload, 1) := by decide +kernel
theorem dM_of_99 : decode cM_of 99 = .ok (.l2i, 1) := by decide +kernel
theorem dM_of_100 : decode cM_of 100 = .ok (.aload_n 0, 1) := by decide +kernel
theorem dM_of_101 : decode cM_of 101 = .ok (.iload 6, 2) := by decide +kernel
theorem dM_of_103 : decode cM_of 103 = .ok (.iload_n 1, 1) := by decide +kernel
theorem dM_of_104 : decode cM_of 104 = .ok (.invokevirtual 213, 3) := by decide +kernel
theorem dM_of_107 : decode cM_of 107 = .ok (.isub, 1) := by decide +kernel
theorem dM_of_108 : decode cM_of 108 = .ok (.goto 4, 3) := by decide +kernel
theorem dM_of_111 : decode cM_of 111 = .ok (.iconst 0, 1) := by decide +kernel
theorem dM_of_112 : decode cM_of 112 = .ok (.istore 8, 2) := by decide +kernel
theorem dM_of_114 : decode cM_of 114 = .ok (.iload 8, 2) := by decide +kernel
theorem dM_of_116 : decode cM_of 116 = .ok (.iload 5, 2) := by decide +kernel
theorem dM_of_118 : decode cM_of 118 = .ok (.if_icmp .le 8, 3) := by decide +kernel
theorem dM_of_121 : decode cM_of 121 = .ok (.iload 8, 2) := by decide +kernel
theorem dM_of_123 : decode cM_of 123 = .ok (.goto 5, 3) := by decide +kernel
theorem dM_of_126 : decode cM_of 126 = .ok (.iload 5, 2) := by decide +kernel
theorem dM_of_128 : decode cM_of 128 = .ok (.istore 5, 2) := by decide +kernel
theorem dM_of_130 : decode cM_of 130 = .ok (.iinc 6 1, 3) := by decide +kernel
theorem dM_of_133 : decode cM_of 133 = .ok (.goto (-103), 3) := by decide +kernel
theorem dM_of_136 : decode cM_of 136 = .ok (.iload_n 2, 1) := by decide +kernel
theorem dM_of_137 : decode cM_of 137 = .ok (.tableswitch 99 0 5 #[39, 51, 53, 56, 59, 66], 39) := by decide +kernel
theorem dM_of_176 : decode cM_of 176 = .ok (.aload_n 0, 1) := by decide +kernel
theorem dM_of_177 : decode cM_of 177 = .ok (.getfield 13, 3) := by decide +kernel
theorem dM_of_180 : decode cM_of 180 = .ok (.aload_n 0, 1) := by decide +kernel
theorem dM_of_181 : decode cM_of 181 = .ok (.getfield 44, 3) := by decide +kernel
theorem dM_of_184 : decode cM_of 184 = .ok (.iload_n 1, 1) := by decide +kernel
theorem dM_of_185 : decode cM_of 185 = .ok (.iaload, 1) := by decide +kernel
theorem dM_of_186 : decode cM_of 186 = .ok (.iaload, 1) := by decide +kernel
theorem dM_of_187 : decode cM_of 187 = .ok (.ireturn, 1) := by decide +kernel
theorem dM_of_188 : decode cM_of 188 = .ok (.iload_n 3, 1) := by decide +kernel
theorem dM_of_189 : decode cM_of 189 = .ok (.ireturn, 1) := by decide +kernel
theorem dM_of_190 : decode cM_of 190 = .ok (.iload 4, 2) := by decide +kernel
theorem dM_of_192 : decode cM_of 192 = .ok (.ireturn, 1) := by decide +kernel
theorem dM_of_193 : decode cM_of 193 = .ok (.iload 5, 2) := by decide +kernel
theorem dM_of_195 : decode cM_of 195 = .ok (.ireturn, 1) := by decide +kernel
theorem dM_of_196 : decode cM_of 196 = .ok (.aload_n 0, 1) := by decide +kernel
theorem dM_of_197 : decode cM_of 197 = .ok (.getfield 47, 3) := by decide +kernel
theorem dM_of_200 : decode cM_of 200 = .ok (.iload_n 1, 1) := by decide +kernel
theorem dM_of_201 : decode cM_of 201 = .ok (.iaload, 1) := by decide +kernel
theorem dM_of_202 : decode cM_of 202 = .ok (.ireturn, 1) := by decide +kernel
theorem dM_of_203 : decode cM_of 203 = .ok (.aload_n 0, 1) := by decide +kernel
theorem dM_of_204 : decode cM_of 204 = .ok (.getfield 13, 3) := by decide +kernel
theorem dM_of_207 : decode cM_of 207 = .ok (.aload_n 0, 1) := by decide +kernel
theorem dM_of_208 : decode cM_of 208 = .ok (.getfield 44, 3) := by decide +kernel
theorem dM_of_211 : decode cM_of 211 = .ok (.iload_n 1, 1) := by decide +kernel
theorem dM_of_212 : decode cM_of 212 = .ok (.iaload, 1) := by decide +kernel
theorem dM_of_213 : decode cM_of 213 = .ok (.iaload, 1) := by decide +kernel
theorem dM_of_214 : decode cM_of 214 = .ok (.bipush 8, 2) := by decide +kernel
theorem dM_of_216 : decode cM_of 216 = .ok (.if_icmp .ne 18, 3) := by decide +kernel
theorem dM_of_219 : decode cM_of 219 = .ok (.aload_n 0, 1) := by decide +kernel
theorem dM_of_220 : decode cM_of 220 = .ok (.getfield 17, 3) := by decide +kernel
theorem dM_of_223 : decode cM_of 223 = .ok (.aload_n 0, 1) := by decide +kernel
theorem dM_of_224 : decode cM_of 224 = .ok (.getfield 44, 3) := by decide +kernel
theorem dM_of_227 : decode cM_of 227 = .ok (.iload_n 1, 1) := by decide +kernel
theorem dM_of_228 : decode cM_of 228 = .ok (.iaload, 1) := by decide +kernel
theorem dM_of_229 : decode cM_of 229 = .ok (.laload, 1) := by decide +kernel
theorem dM_of_230 : decode cM_of 230 = .ok (.l2i, 1) := by decide +kernel
theorem dM_of_231 : decode cM_of 231 = .ok (.goto 4, 3) := by decide +kernel
theorem dM_of_234 : decode cM_of 234 = .ok (.iconst (-1), 1) := by decide +kernel
theorem dM_of_235 : decode cM_of 235 = .ok (.ireturn, 1) := by decide +kernel
theorem dM_of_236 : decode cM_of 236 = .ok (.iconst (-1), 1) := by decide +kernel
theorem dM_of_237 : decode cM_of 237 = .ok (.ireturn, 1) := by decide +kernel
theorem dM_number_0 : decode cM_number 0 = .ok (.aload_n 0, 1) := by decide +kernel
theorem dM_number_1 : decode cM_number 1 = .ok (.iload_n 1, 1) := by decide +kernel
theorem dM_number_2 : decode cM_number 2 = .ok (.invokevirtual 206, 3) := by decide +kernel
theorem dM_number_5 : decode cM_number 5 = .ok (.istore_n 2, 1) := by decide +kernel
theorem dM_number_6 : decode cM_number 6 = .ok (.iload_n 2, 1) := by decide +kernel
theorem dM_number_7 : decode cM_number 7 = .ok (.ifCond .eq 17, 3) := by decide +kernel
theorem dM_number_10 : decode cM_number 10 = .ok (.aload_n 0, 1) := by decide +kernel
theorem dM_number_11 : decode cM_number 11 = .ok (.getfield 13, 3) := by decide +kernel
theorem dM_number_14 : decode cM_number 14 = .ok (.aload_n 0, 1) := by decide +kernel
theorem dM_number_15 : decode cM_number 15 = .ok (.getfield 44, 3) := by decide +kernel
theorem dM_number_18 : decode cM_number 18 = .ok (.iload_n 1, 1) := by decide +kernel
theorem dM_number_19 : decode cM_number 19 = .ok (.iaload, 1) := by decide +kernel
theorem dM_number_20 : decode cM_number 20 = .ok (.iaload, 1) := by decide +kernel
theorem dM_number_21 : decode cM_number 21 = .ok (.goto 4, 3) := by decide +kernel
theorem dM_number_24 : decode cM_number 24 = .ok (.iconst (-1), 1) := by decide +kernel
theorem dM_number_25 : decode cM_number 25 = .ok (.istore_n 3, 1) := by decide +kernel
theorem dM_number_26 : decode cM_number 26 = .ok (.aload_n 0, 1) := by decide +kernel
theorem dM_number_27 : decode cM_number 27 = .ok (.iload_n 3, 1) := by decide +kernel
theorem dM_number_28 : decode cM_number 28 = .ok (.ifCond .eq 21, 3) := by decide +kernel
theorem dM_number_31 : decode cM_number 31 = .ok (.iload_n 3, 1) := by decide +kernel
theorem dM_number_32 : decode cM_number 32 = .ok (.bipush 6, 2) := by decide +kernel
theorem dM_number_34 : decode cM_number 34 = .ok (.if_icmp .eq 15, 3) := by decide +kernel
theorem dM_number_37 : decode cM_number 37 = .ok (.iload_n 3, 1) := by decide +kernel
theorem dM_number_38 : decode cM_number 38 = .ok (.bipush 7, 2) := by decide +kernel
theorem dM_number_40 : decode cM_number 40 = .ok (.if_icmp .eq 9, 3) := by decide +kernel
theorem dM_number_43 : decode cM_number 43 = .ok (.iload_n 3, 1) := by decide +kernel
theorem dM_number_44 : decode cM_number 44 = .ok (.bipush 9, 2) := by decide +kernel
theorem dM_number_46 : decode cM_number 46 = .ok (.if_icmp .ne 7, 3) := by decide +kernel
theorem dM_number_49 : decode cM_number 49 = .ok (.iconst 0, 1) := by decide +kernel
theorem dM_number_50 : decode cM_number 50 = .ok (.goto 4, 3) := by decide +kernel
theorem dM_number_53 : decode cM_number 53 = .ok (.iconst 1, 1) := by decide +kernel
theorem dM_number_54 : decode cM_number 54 = .ok (.putfield 77, 3) := by decide +kernel
theorem dM_number_57 : decode cM_number 57 = .ok (.aload_n 0, 1) := by decide +kernel
theorem dM_number_58 : decode cM_number 58 = .ok (.getfield 77, 3) := by decide +kernel
theorem dM_number_61 : decode cM_number 61 = .ok (.ifCond .le 7, 3) := by decide +kernel
theorem dM_number_64 : decode cM_number 64 = .ok (.lconst 0, 1) := by decide +kernel
theorem dM_number_65 : decode cM_number 65 = .ok (.goto 14, 3) := by decide +kernel
theorem dM_number_68 : decode cM_number 68 = .ok (.aload_n 0, 1) := by decide +kernel
theorem dM_number_69 : decode cM_number 69 = .ok (.getfield 17, 3) := by decide +kernel
theorem dM_number_72 : decode cM_number 72 = .ok (.aload_n 0, 1) := by decide +kernel
theorem dM_number_73 : decode cM_number 73 = .ok (.getfield 44, 3) := by decide +kernel
theorem dM_number_76 : decode cM_number 76 = .ok (.iload_n 1, 1) := by decide +kernel
theorem dM_number_77 : decode cM_number 77 = .ok (.iaload, 1) := by decide +kernel
theorem dM_number_78 : decode cM_number 78 = .ok (.laload, 1) := by decide +kernel
theorem dM_number_79 : decode cM_number 79 = .ok (.lreturn, 1) := by decide +kernel
theorem dM_byteAt_0 : decode cM_byteAt 0 = .ok (.aload_n 0, 1) := by decide +kernel
theorem dM_byteAt_1 : decode cM_byteAt 1 = .ok (.iconst 0, 1) := by decide +kernel
theorem dM_byteAt_2 : decode cM_byteAt 2 = .ok (.putfield 77, 3) := by decide +kernel
theorem dM_byteAt_5 : decode cM_byteAt 5 = .ok (.aload_n 0, 1) := by decide +kernel
theorem dM_byteAt_6 : decode cM_byteAt 6 = .ok (.iload_n 1, 1) := by decide +kernel
theorem dM_byteAt_7 : decode cM_byteAt 7 = .ok (.invokevirtual 206, 3) := by decide +kernel
theorem dM_byteAt_10 : decode cM_byteAt 10 = .ok (.ifCond .eq 63, 3) := by decide +kernel
theorem dM_byteAt_13 : decode cM_byteAt 13 = .ok (.aload_n 0, 1) := by decide +kernel
theorem dM_byteAt_14 : decode cM_byteAt 14 = .ok (.getfield 13, 3) := by decide +kernel
theorem dM_byteAt_17 : decode cM_byteAt 17 = .ok (.aload_n 0, 1) := by decide +kernel
theorem dM_byteAt_18 : decode cM_byteAt 18 = .ok (.getfield 44, 3) := by decide +kernel
theorem dM_byteAt_21 : decode cM_byteAt 21 = .ok (.iload_n 1, 1) := by decide +kernel
theorem dM_byteAt_22 : decode cM_byteAt 22 = .ok (.iaload, 1) := by decide +kernel
theorem dM_byteAt_23 : decode cM_byteAt 23 = .ok (.iaload, 1) := by decide +kernel
theorem dM_byteAt_24 : decode cM_byteAt 24 = .ok (.bipush 8, 2) := by decide +kernel
theorem dM_byteAt_26 : decode cM_byteAt 26 = .ok (.if_icmp .ne 47, 3) := by decide +kernel
theorem dM_byteAt_29 : decode cM_byteAt 29 = .ok (.iload_n 2, 1) := by decide +kernel
theorem dM_byteAt_30 : decode cM_byteAt 30 = .ok (.ifCond .lt 43, 3) := by decide +kernel
theorem dM_byteAt_33 : decode cM_byteAt 33 = .ok (.iload_n 2, 1) := by decide +kernel
theorem dM_byteAt_34 : decode cM_byteAt 34 = .ok (.i2l, 1) := by decide +kernel
theorem dM_byteAt_35 : decode cM_byteAt 35 = .ok (.aload_n 0, 1) := by decide +kernel
theorem dM_byteAt_36 : decode cM_byteAt 36 = .ok (.getfield 17, 3) := by decide +kernel
theorem dM_byteAt_39 : decode cM_byteAt 39 = .ok (.aload_n 0, 1) := by decide +kernel
theorem dM_byteAt_40 : decode cM_byteAt 40 = .ok (.getfield 44, 3) := by decide +kernel
theorem dM_byteAt_43 : decode cM_byteAt 43 = .ok (.iload_n 1, 1) := by decide +kernel
theorem dM_byteAt_44 : decode cM_byteAt 44 = .ok (.iaload, 1) := by decide +kernel
theorem dM_byteAt_45 : decode cM_byteAt 45 = .ok (.laload, 1) := by decide +kernel
theorem dM_byteAt_46 : decode cM_byteAt 46 = .ok (.lcmp, 1) := by decide +kernel
theorem dM_byteAt_47 : decode cM_byteAt 47 = .ok (.ifCond .ge 26, 3) := by decide +kernel
theorem dM_byteAt_50 : decode cM_byteAt 50 = .ok (.aload_n 0, 1) := by decide +kernel
theorem dM_byteAt_51 : decode cM_byteAt 51 = .ok (.getfield 27, 3) := by decide +kernel
theorem dM_byteAt_54 : decode cM_byteAt 54 = .ok (.bipush 64, 2) := by decide +kernel
theorem dM_byteAt_56 : decode cM_byteAt 56 = .ok (.aload_n 0, 1) := by decide +kernel
theorem dM_byteAt_57 : decode cM_byteAt 57 = .ok (.getfield 44, 3) := by decide +kernel
theorem dM_byteAt_60 : decode cM_byteAt 60 = .ok (.iload_n 1, 1) := by decide +kernel
theorem dM_byteAt_61 : decode cM_byteAt 61 = .ok (.iaload, 1) := by decide +kernel
theorem dM_byteAt_62 : decode cM_byteAt 62 = .ok (.imul, 1) := by decide +kernel
theorem dM_byteAt_63 : decode cM_byteAt 63 = .ok (.iload_n 2, 1) := by decide +kernel
theorem dM_byteAt_64 : decode cM_byteAt 64 = .ok (.iadd, 1) := by decide +kernel
theorem dM_byteAt_65 : decode cM_byteAt 65 = .ok (.baload, 1) := by decide +kernel
theorem dM_byteAt_66 : decode cM_byteAt 66 = .ok (.sipush 255, 3) := by decide +kernel
theorem dM_byteAt_69 : decode cM_byteAt 69 = .ok (.iand, 1) := by decide +kernel
theorem dM_byteAt_70 : decode cM_byteAt 70 = .ok (.goto 4, 3) := by decide +kernel
theorem dM_byteAt_73 : decode cM_byteAt 73 = .ok (.iconst (-1), 1) := by decide +kernel
theorem dM_byteAt_74 : decode cM_byteAt 74 = .ok (.ireturn, 1) := by decide +kernel
theorem dM_same_0 : decode cM_same 0 = .ok (.aload_n 0, 1) := by decide +kernel
theorem dM_same_1 : decode cM_same 1 = .ok (.aload_n 0, 1) := by decide +kernel
theorem dM_same_2 : decode cM_same 2 = .ok (.getfield 94, 3) := by decide +kernel
theorem dM_same_5 : decode cM_same 5 = .ok (.iconst 2, 1) := by decide +kernel
theorem dM_same_6 : decode cM_same 6 = .ok (.if_icmp .ge 7, 3) := by decide +kernel
theorem dM_same_9 : decode cM_same 9 = .ok (.iconst 1, 1) := by decide +kernel
theorem dM_same_10 : decode cM_same 10 = .ok (.goto 4, 3) := by decide +kernel
theorem dM_same_13 : decode cM_same 13 = .ok (.iconst 0, 1) := by decide +kernel
theorem dM_same_14 : decode cM_same 14 = .ok (.putfield 77, 3) := by decide +kernel
theorem dM_same_17 : decode cM_same 17 = .ok (.aload_n 0, 1) := by decide +kernel
theorem dM_same_18 : decode cM_same 18 = .ok (.getfield 77, 3) := by decide +kernel
theorem dM_same_21 : decode cM_same 21 = .ok (.ifCond .le 5, 3) := by decide +kernel
theorem dM_same_24 : decode cM_same 24 = .ok (.iconst 0, 1) := by decide +kernel
theorem dM_same_25 : decode cM_same 25 = .ok (.ireturn, 1) := by decide +kernel
theorem dM_same_26 : decode cM_same 26 = .ok (.aload_n 0, 1) := by decide +kernel
theorem dM_same_27 : decode cM_same 27 = .ok (.aload_n 0, 1) := by decide +kernel
theorem dM_same_28 : decode cM_same 28 = .ok (.getfield 31, 3) := by decide +kernel
theorem dM_same_31 : decode cM_same 31 = .ok (.aload_n 0, 1) := by decide +kernel
theorem dM_same_32 : decode cM_same 32 = .ok (.getfield 94, 3) := by decide +kernel
theorem dM_same_35 : decode cM_same 35 = .ok (.iconst 2, 1) := by decide +kernel
theorem dM_same_36 : decode cM_same 36 = .ok (.isub, 1) := by decide +kernel
theorem dM_same_37 : decode cM_same 37 = .ok (.iaload, 1) := by decide +kernel
theorem dM_same_38 : decode cM_same 38 = .ok (.invokevirtual 90, 3) := by decide +kernel
theorem dM_same_41 : decode cM_same 41 = .ok (.aload_n 0, 1) := by decide +kernel
theorem dM_same_42 : decode cM_same 42 = .ok (.getfield 87, 3) := by decide +kernel
theorem dM_same_45 : decode cM_same 45 = .ok (.istore_n 1, 1) := by decide +kernel
theorem dM_same_46 : decode cM_same 46 = .ok (.iconst 0, 1) := by decide +kernel
theorem dM_same_47 : decode cM_same 47 = .ok (.istore_n 2, 1) := by decide +kernel
theorem dM_same_48 : decode cM_same 48 = .ok (.iload_n 2, 1) := by decide +kernel
theorem dM_same_49 : decode cM_same 49 = .ok (.iload_n 1, 1) := by decide +kernel
theorem dM_same_50 : decode cM_same 50 = .ok (.if_icmp .ge 21, 3) := by decide +kernel
theorem dM_same_53 : decode cM_same 53 = .ok (.aload_n 0, 1) := by decide +kernel
theorem dM_same_54 : decode cM_same 54 = .ok (.getfield 65, 3) := by decide +kernel
theorem dM_same_57 : decode cM_same 57 = .ok (.iload_n 2, 1) := by decide +kernel
theorem dM_same_58 : decode cM_same 58 = .ok (.aload_n 0, 1) := by decide +kernel
theorem dM_same_59 : decode cM_same 59 = .ok (.getfield 44, 3) := by decide +kernel
theorem dM_same_62 : decode cM_same 62 = .ok (.iload_n 2, 1) := by decide +kernel
theorem dM_same_63 : decode cM_same 63 = .ok (.iaload, 1) := by decide +kernel
theorem dM_same_64 : decode cM_same 64 = .ok (.iastore, 1) := by decide +kernel
theorem dM_same_65 : decode cM_same 65 = .ok (.iinc 2 1, 3) := by decide +kernel
theorem dM_same_68 : decode cM_same 68 = .ok (.goto (-20), 3) := by decide +kernel
theorem dM_same_71 : decode cM_same 71 = .ok (.aload_n 0, 1) := by decide +kernel
theorem dM_same_72 : decode cM_same 72 = .ok (.aload_n 0, 1) := by decide +kernel
theorem dM_same_73 : decode cM_same 73 = .ok (.getfield 31, 3) := by decide +kernel
theorem dM_same_76 : decode cM_same 76 = .ok (.aload_n 0, 1) := by decide +kernel
theorem dM_same_77 : decode cM_same 77 = .ok (.getfield 94, 3) := by decide +kernel
theorem dM_same_80 : decode cM_same 80 = .ok (.iconst 1, 1) := by decide +kernel
theorem dM_same_81 : decode cM_same 81 = .ok (.isub, 1) := by decide +kernel
theorem dM_same_82 : decode cM_same 82 = .ok (.iaload, 1) := by decide +kernel
theorem dM_same_83 : decode cM_same 83 = .ok (.invokevirtual 90, 3) := by decide +kernel
theorem dM_same_86 : decode cM_same 86 = .ok (.iload_n 1, 1) := by decide +kernel
theorem dM_same_87 : decode cM_same 87 = .ok (.aload_n 0, 1) := by decide +kernel
theorem dM_same_88 : decode cM_same 88 = .ok (.getfield 87, 3) := by decide +kernel
theorem dM_same_91 : decode cM_same 91 = .ok (.if_icmp .ne 7, 3) := by decide +kernel
theorem dM_same_94 : decode cM_same 94 = .ok (.iconst 1, 1) := by decide +kernel
theorem dM_same_95 : decode cM_same 95 = .ok (.goto 4, 3) := by decide +kernel
theorem dM_same_98 : decode cM_same 98 = .ok (.iconst 0, 1) := by decide +kernel
theorem dM_same_99 : decode cM_same 99 = .ok (.istore_n 2, 1) := by decide +kernel
theorem dM_same_100 : decode cM_same 100 = .ok (.iconst 0, 1) := by decide +kernel
theorem dM_same_101 : decode cM_same 101 = .ok (.istore_n 3, 1) := by decide +kernel
theorem dM_same_102 : decode cM_same 102 = .ok (.iload_n 3, 1) := by decide +kernel
theorem dM_same_103 : decode cM_same 103 = .ok (.iload_n 1, 1) := by decide +kernel
theorem dM_same_104 : decode cM_same 104 = .ok (.if_icmp .ge 144, 3) := by decide +kernel
theorem dM_same_107 : decode cM_same 107 = .ok (.iload_n 2, 1) := by decide +kernel
theorem dM_same_108 : decode cM_same 108 = .ok (.ifCond .eq 140, 3) := by decide +kernel
theorem dM_same_111 : decode cM_same 111 = .ok (.aload_n 0, 1) := by decide +kernel
theorem dM_same_112 : decode cM_same 112 = .ok (.getfield 65, 3) := by decide +kernel
theorem dM_same_115 : decode cM_same 115 = .ok (.iload_n 3, 1) := by decide +kernel
theorem dM_same_116 : decode cM_same 116 = .ok (.iaload, 1) := by decide +kernel
theorem dM_same_117 : decode cM_same 117 = .ok (.istore 4, 2) := by decide +kernel
theorem dM_same_119 : decode cM_same 119 = .ok (.aload_n 0, 1) := by decide +kernel
theorem dM_same_120 : decode cM_same 120 = .ok (.getfield 44, 3) := by decide +kernel
theorem dM_same_123 : decode cM_same 123 = .ok (.iload_n 3, 1) := by decide +kernel
theorem dM_same_124 : decode cM_same 124 = .ok (.iaload, 1) := by decide +kernel
theorem dM_same_125 : decode cM_same 125 = .ok (.istore 5, 2) := by decide +kernel
theorem dM_same_127 : decode cM_same 127 = .ok (.aload_n 0, 1) := by decide +kernel
theorem dM_same_128 : decode cM_same 128 = .ok (.getfield 13, 3) := by decide +kernel
theorem dM_same_131 : decode cM_same 131 = .ok (.iload 4, 2) := by decide +kernel
theorem dM_same_133 : decode cM_same 133 = .ok (.iaload, 1) := by decide +kernel
theorem dM_same_134 : decode cM_same 134 = .ok (.aload_n 0, 1) := by decide +kernel
theorem dM_same_135 : decode cM_same 135 = .ok (.getfield 13, 3) := by decide +kernel
theorem dM_same_138 : decode cM_same 138 = .ok (.iload 5, 2) := by decide +kernel
theorem dM_same_140 : decode cM_same 140 = .ok (.iaload, 1) := by decide +kernel
theorem dM_same_141 : decode cM_same 141 = .ok (.if_icmp .ne 25, 3) := by decide +kernel
theorem dM_same_144 : decode cM_same 144 = .ok (.aload_n 0, 1) := by decide +kernel
theorem dM_same_145 : decode cM_same 145 = .ok (.getfield 17, 3) := by decide +kernel
theorem dM_same_148 : decode cM_same 148 = .ok (.iload 4, 2) := by decide +kernel
theorem dM_same_150 : decode cM_same 150 = .ok (.laload, 1) := by decide +kernel
theorem dM_same_151 : decode cM_same 151 = .ok (.aload_n 0, 1) := by decide +kernel
theorem dM_same_152 : decode cM_same 152 = .ok (.getfield 17, 3) := by decide +kernel
theorem dM_same_155 : decode cM_same 155 = .ok (.iload 5, 2) := by decide +kernel
theorem dM_same_157 : decode cM_same 157 = .ok (.laload, 1) := by decide +kernel
theorem dM_same_158 : decode cM_same 158 = .ok (.lcmp, 1) := by decide +kernel
theorem dM_same_159 : decode cM_same 159 = .ok (.ifCond .ne 7, 3) := by decide +kernel
theorem dM_same_162 : decode cM_same 162 = .ok (.iconst 1, 1) := by decide +kernel
theorem dM_same_163 : decode cM_same 163 = .ok (.goto 4, 3) := by decide +kernel
theorem dM_same_166 : decode cM_same 166 = .ok (.iconst 0, 1) := by decide +kernel
theorem dM_same_167 : decode cM_same 167 = .ok (.istore_n 2, 1) := by decide +kernel
theorem dM_same_168 : decode cM_same 168 = .ok (.iconst 0, 1) := by decide +kernel
theorem dM_same_169 : decode cM_same 169 = .ok (.istore 6, 2) := by decide +kernel
theorem dM_same_171 : decode cM_same 171 = .ok (.iload_n 2, 1) := by decide +kernel
theorem dM_same_172 : decode cM_same 172 = .ok (.ifCond .eq 70, 3) := by decide +kernel
theorem dM_same_175 : decode cM_same 175 = .ok (.aload_n 0, 1) := by decide +kernel
theorem dM_same_176 : decode cM_same 176 = .ok (.getfield 13, 3) := by decide +kernel
theorem dM_same_179 : decode cM_same 179 = .ok (.iload 4, 2) := by decide +kernel
theorem dM_same_181 : decode cM_same 181 = .ok (.iaload, 1) := by decide +kernel
theorem dM_same_182 : decode cM_same 182 = .ok (.bipush 8, 2) := by decide +kernel
theorem dM_same_184 : decode cM_same 184 = .ok (.if_icmp .ne 58, 3) := by decide +kernel
theorem dM_same_187 : decode cM_same 187 = .ok (.iload 6, 2) := by decide +kernel
theorem dM_same_189 : decode cM_same 189 = .ok (.i2l, 1) := by decide +kernel
theorem dM_same_190 : decode cM_same 190 = .ok (.aload_n 0, 1) := by decide +kernel
theorem dM_same_191 : decode cM_same 191 = .ok (.getfield 17, 3) := by decide +kernel
theorem dM_same_194 : decode cM_same 194 = .ok (.iload 4, 2) := by decide +kernel
theorem dM_same_196 : decode cM_same 196 = .ok (.laload, 1) := by decide +kernel
theorem dM_same_197 : decode cM_same 197 = .ok (.lcmp, 1) := by decide +kernel
theorem dM_same_198 : decode cM_same 198 = .ok (.ifCond .ge 44, 3) := by decide +kernel
theorem dM_same_201 : decode cM_same 201 = .ok (.aload_n 0, 1) := by decide +kernel
theorem dM_same_202 : decode cM_same 202 = .ok (.getfield 27, 3) := by decide +kernel
theorem dM_same_205 : decode cM_same 205 = .ok (.bipush 64, 2) := by decide +kernel
theorem dM_same_207 : decode cM_same 207 = .ok (.iload 4, 2) := by decide +kernel
theorem dM_same_209 : decode cM_same 209 = .ok (.imul, 1) := by decide +kernel
theorem dM_same_210 : decode cM_same 210 = .ok (.iload 6, 2) := by decide +kernel
theorem dM_same_212 : decode cM_same 212 = .ok (.iadd, 1) := by decide +kernel
theorem dM_same_213 : decode cM_same 213 = .ok (.baload, 1) := by decide +kernel
theorem dM_same_214 : decode cM_same 214 = .ok (.aload_n 0, 1) := by decide +kernel
theorem dM_same_215 : decode cM_same 215 = .ok (.getfield 27, 3) := by decide +kernel
theorem dM_same_218 : decode cM_same 218 = .ok (.bipush 64, 2) := by decide +kernel
theorem dM_same_220 : decode cM_same 220 = .ok (.iload 5, 2) := by decide +kernel
theorem dM_same_222 : decode cM_same 222 = .ok (.imul, 1) := by decide +kernel
theorem dM_same_223 : decode cM_same 223 = .ok (.iload 6, 2) := by decide +kernel
theorem dM_same_225 : decode cM_same 225 = .ok (.iadd, 1) := by decide +kernel
theorem dM_same_226 : decode cM_same 226 = .ok (.baload, 1) := by decide +kernel
theorem dM_same_227 : decode cM_same 227 = .ok (.if_icmp .ne 7, 3) := by decide +kernel
theorem dM_same_230 : decode cM_same 230 = .ok (.iconst 1, 1) := by decide +kernel
theorem dM_same_231 : decode cM_same 231 = .ok (.goto 4, 3) := by decide +kernel
theorem dM_same_234 : decode cM_same 234 = .ok (.iconst 0, 1) := by decide +kernel
theorem dM_same_235 : decode cM_same 235 = .ok (.istore_n 2, 1) := by decide +kernel
theorem dM_same_236 : decode cM_same 236 = .ok (.iinc 6 1, 3) := by decide +kernel
theorem dM_same_239 : decode cM_same 239 = .ok (.goto (-68), 3) := by decide +kernel
theorem dM_same_242 : decode cM_same 242 = .ok (.iinc 3 1, 3) := by decide +kernel
theorem dM_same_245 : decode cM_same 245 = .ok (.goto (-143), 3) := by decide +kernel
theorem dM_same_248 : decode cM_same 248 = .ok (.iload_n 2, 1) := by decide +kernel
theorem dM_same_249 : decode cM_same 249 = .ok (.ireturn, 1) := by decide +kernel
theorem dM_output_0 : decode cM_output 0 = .ok (.aload_n 0, 1) := by decide +kernel
theorem dM_output_1 : decode cM_output 1 = .ok (.iconst 0, 1) := by decide +kernel
theorem dM_output_2 : decode cM_output 2 = .ok (.putfield 77, 3) := by decide +kernel
theorem dM_output_5 : decode cM_output 5 = .ok (.iload_n 1, 1) := by decide +kernel
theorem dM_output_6 : decode cM_output 6 = .ok (.ifCond .lt 11, 3) := by decide +kernel
theorem dM_output_9 : decode cM_output 9 = .ok (.iload_n 1, 1) := by decide +kernel
theorem dM_output_10 : decode cM_output 10 = .ok (.aload_n 0, 1) := by decide +kernel
theorem dM_output_11 : decode cM_output 11 = .ok (.getfield 146, 3) := by decide +kernel
theorem dM_output_14 : decode cM_output 14 = .ok (.if_icmp .lt 7, 3) := by decide +kernel
theorem dM_output_17 : decode cM_output 17 = .ok (.iconst (-1), 1) := by decide +kernel
theorem dM_output_18 : decode cM_output 18 = .ok (.goto 13, 3) := by decide +kernel
theorem dM_output_21 : decode cM_output 21 = .ok (.aload_n 0, 1) := by decide +kernel
theorem dM_output_22 : decode cM_output 22 = .ok (.getfield 34, 3) := by decide +kernel
theorem dM_output_25 : decode cM_output 25 = .ok (.iload_n 1, 1) := by decide +kernel
theorem dM_output_26 : decode cM_output 26 = .ok (.baload, 1) := by decide +kernel
theorem dM_output_27 : decode cM_output 27 = .ok (.sipush 255, 3) := by decide +kernel
theorem dM_output_30 : decode cM_output 30 = .ok (.iand, 1) := by decide +kernel
theorem dM_output_31 : decode cM_output 31 = .ok (.ireturn, 1) := by decide +kernel
theorem dM_look_0 : decode cM_look 0 = .ok (.aload_n 0, 1) := by decide +kernel
theorem dM_look_1 : decode cM_look 1 = .ok (.iconst 0, 1) := by decide +kernel
theorem dM_look_2 : decode cM_look 2 = .ok (.putfield 77, 3) := by decide +kernel
theorem dM_look_5 : decode cM_look 5 = .ok (.iload_n 1, 1) := by decide +kernel
theorem dM_look_6 : decode cM_look 6 = .ok (.tableswitch 108 0 7 #[46, 51, 56, 61, 66, 71, 76, 81], 46) := by decide +kernel
theorem dM_look_52 : decode cM_look 52 = .ok (.aload_n 0, 1) := by decide +kernel
theorem dM_look_53 : decode cM_look 53 = .ok (.getfield 94, 3) := by decide +kernel
theorem dM_look_56 : decode cM_look 56 = .ok (.ireturn, 1) := by decide +kernel
theorem dM_look_57 : decode cM_look 57 = .ok (.aload_n 0, 1) := by decide +kernel
theorem dM_look_58 : decode cM_look 58 = .ok (.getfield 84, 3) := by decide +kernel
theorem dM_look_61 : decode cM_look 61 = .ok (.ireturn, 1) := by decide +kernel
theorem dM_look_62 : decode cM_look 62 = .ok (.aload_n 0, 1) := by decide +kernel
theorem dM_look_63 : decode cM_look 63 = .ok (.getfield 146, 3) := by decide +kernel
theorem dM_look_66 : decode cM_look 66 = .ok (.ireturn, 1) := by decide +kernel
theorem dM_look_67 : decode cM_look 67 = .ok (.aload_n 0, 1) := by decide +kernel
theorem dM_look_68 : decode cM_look 68 = .ok (.getfield 159, 3) := by decide +kernel
theorem dM_look_71 : decode cM_look 71 = .ok (.ireturn, 1) := by decide +kernel
theorem dM_look_72 : decode cM_look 72 = .ok (.aload_n 0, 1) := by decide +kernel
theorem dM_look_73 : decode cM_look 73 = .ok (.getfield 162, 3) := by decide +kernel
theorem dM_look_76 : decode cM_look 76 = .ok (.ireturn, 1) := by decide +kernel
theorem dM_look_77 : decode cM_look 77 = .ok (.aload_n 0, 1) := by decide +kernel
theorem dM_look_78 : decode cM_look 78 = .ok (.getfield 165, 3) := by decide +kernel
theorem dM_look_81 : decode cM_look 81 = .ok (.ireturn, 1) := by decide +kernel
theorem dM_look_82 : decode cM_look 82 = .ok (.aload_n 0, 1) := by decide +kernel
theorem dM_look_83 : decode cM_look 83 = .ok (.getfield 40, 3) := by decide +kernel
theorem dM_look_86 : decode cM_look 86 = .ok (.ireturn, 1) := by decide +kernel
theorem dM_look_87 : decode cM_look 87 = .ok (.aload_n 0, 1) := by decide +kernel
theorem dM_look_88 : decode cM_look 88 = .ok (.getfield 94, 3) := by decide +kernel
theorem dM_look_91 : decode cM_look 91 = .ok (.ifCond .ne 7, 3) := by decide +kernel
theorem dM_look_94 : decode cM_look 94 = .ok (.iconst (-1), 1) := by decide +kernel
theorem dM_look_95 : decode cM_look 95 = .ok (.goto 18, 3) := by decide +kernel
theorem dM_look_98 : decode cM_look 98 = .ok (.aload_n 0, 1) := by decide +kernel
theorem dM_look_99 : decode cM_look 99 = .ok (.aload_n 0, 1) := by decide +kernel
theorem dM_look_100 : decode cM_look 100 = .ok (.getfield 31, 3) := by decide +kernel
theorem dM_look_103 : decode cM_look 103 = .ok (.aload_n 0, 1) := by decide +kernel
theorem dM_look_104 : decode cM_look 104 = .ok (.getfield 94, 3) := by decide +kernel
theorem dM_look_107 : decode cM_look 107 = .ok (.iconst 1, 1) := by decide +kernel
theorem dM_look_108 : decode cM_look 108 = .ok (.isub, 1) := by decide +kernel
theorem dM_look_109 : decode cM_look 109 = .ok (.iaload, 1) := by decide +kernel
theorem dM_look_110 : decode cM_look 110 = .ok (.invokevirtual 153, 3) := by decide +kernel
theorem dM_look_113 : decode cM_look 113 = .ok (.ireturn, 1) := by decide +kernel
theorem dM_look_114 : decode cM_look 114 = .ok (.iconst (-1), 1) := by decide +kernel
theorem dM_look_115 : decode cM_look 115 = .ok (.ireturn, 1) := by decide +kernel
