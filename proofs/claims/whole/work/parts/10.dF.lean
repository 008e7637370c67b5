theorem dF_isKind_0 : decode cF_isKind 0 = .ok (.iload_n 0, 1) := by decide +kernel
theorem dF_isKind_1 : decode cF_isKind 1 = .ok (.ifCond .lt 13, 3) := by decide +kernel
theorem dF_isKind_4 : decode cF_isKind 4 = .ok (.iload_n 0, 1) := by decide +kernel
theorem dF_isKind_5 : decode cF_isKind 5 = .ok (.bipush 11, 2) := by decide +kernel
theorem dF_isKind_7 : decode cF_isKind 7 = .ok (.if_icmp .gt 7, 3) := by decide +kernel
theorem dF_isKind_10 : decode cF_isKind 10 = .ok (.iconst 1, 1) := by decide +kernel
theorem dF_isKind_11 : decode cF_isKind 11 = .ok (.goto 4, 3) := by decide +kernel
theorem dF_isKind_14 : decode cF_isKind 14 = .ok (.iconst 0, 1) := by decide +kernel
theorem dF_isKind_15 : decode cF_isKind 15 = .ok (.ireturn, 1) := by decide +kernel
theorem dF_partsOf_0 : decode cF_partsOf 0 = .ok (.iload_n 0, 1) := by decide +kernel
theorem dF_partsOf_1 : decode cF_partsOf 1 = .ok (.iconst 2, 1) := by decide +kernel
theorem dF_partsOf_2 : decode cF_partsOf 2 = .ok (.if_icmp .ne 5, 3) := by decide +kernel
theorem dF_partsOf_5 : decode cF_partsOf 5 = .ok (.iconst 2, 1) := by decide +kernel
theorem dF_partsOf_6 : decode cF_partsOf 6 = .ok (.ireturn, 1) := by decide +kernel
theorem dF_partsOf_7 : decode cF_partsOf 7 = .ok (.iload_n 0, 1) := by decide +kernel
theorem dF_partsOf_8 : decode cF_partsOf 8 = .ok (.iconst 1, 1) := by decide +kernel
theorem dF_partsOf_9 : decode cF_partsOf 9 = .ok (.if_icmp .eq 13, 3) := by decide +kernel
theorem dF_partsOf_12 : decode cF_partsOf 12 = .ok (.iload_n 0, 1) := by decide +kernel
theorem dF_partsOf_13 : decode cF_partsOf 13 = .ok (.iconst 3, 1) := by decide +kernel
theorem dF_partsOf_14 : decode cF_partsOf 14 = .ok (.if_icmp .eq 8, 3) := by decide +kernel
theorem dF_partsOf_17 : decode cF_partsOf 17 = .ok (.iload_n 0, 1) := by decide +kernel
theorem dF_partsOf_18 : decode cF_partsOf 18 = .ok (.iconst 4, 1) := by decide +kernel
theorem dF_partsOf_19 : decode cF_partsOf 19 = .ok (.if_icmp .ne 7, 3) := by decide +kernel
theorem dF_partsOf_22 : decode cF_partsOf 22 = .ok (.iconst 1, 1) := by decide +kernel
theorem dF_partsOf_23 : decode cF_partsOf 23 = .ok (.goto 4, 3) := by decide +kernel
theorem dF_partsOf_26 : decode cF_partsOf 26 = .ok (.iconst 0, 1) := by decide +kernel
theorem dF_partsOf_27 : decode cF_partsOf 27 = .ok (.ireturn, 1) := by decide +kernel
theorem dF_hasNumber_0 : decode cF_hasNumber 0 = .ok (.iload_n 0, 1) := by decide +kernel
theorem dF_hasNumber_1 : decode cF_hasNumber 1 = .ok (.ifCond .eq 21, 3) := by decide +kernel
theorem dF_hasNumber_4 : decode cF_hasNumber 4 = .ok (.iload_n 0, 1) := by decide +kernel
theorem dF_hasNumber_5 : decode cF_hasNumber 5 = .ok (.bipush 6, 2) := by decide +kernel
theorem dF_hasNumber_7 : decode cF_hasNumber 7 = .ok (.if_icmp .eq 15, 3) := by decide +kernel
theorem dF_hasNumber_10 : decode cF_hasNumber 10 = .ok (.iload_n 0, 1) := by decide +kernel
theorem dF_hasNumber_11 : decode cF_hasNumber 11 = .ok (.bipush 7, 2) := by decide +kernel
theorem dF_hasNumber_13 : decode cF_hasNumber 13 = .ok (.if_icmp .eq 9, 3) := by decide +kernel
theorem dF_hasNumber_16 : decode cF_hasNumber 16 = .ok (.iload_n 0, 1) := by decide +kernel
theorem dF_hasNumber_17 : decode cF_hasNumber 17 = .ok (.bipush 9, 2) := by decide +kernel
theorem dF_hasNumber_19 : decode cF_hasNumber 19 = .ok (.if_icmp .ne 7, 3) := by decide +kernel
theorem dF_hasNumber_22 : decode cF_hasNumber 22 = .ok (.iconst 1, 1) := by decide +kernel
theorem dF_hasNumber_23 : decode cF_hasNumber 23 = .ok (.goto 4, 3) := by decide +kernel
theorem dF_hasNumber_26 : decode cF_hasNumber 26 = .ok (.iconst 0, 1) := by decide +kernel
theorem dF_hasNumber_27 : decode cF_hasNumber 27 = .ok (.ireturn, 1) := by decide +kernel
theorem dF_fits_0 : decode cF_fits 0 = .ok (.iload_n 0, 1) := by decide +kernel
theorem dF_fits_1 : decode cF_fits 1 = .ok (.tableswitch 135 0 9 #[55, 135, 135, 135, 135, 135, 75, 95, 97, 117], 55) := by decide +kernel
theorem dF_fits_56 : decode cF_fits 56 = .ok (.lload_n 1, 1) := by decide +kernel
theorem dF_fits_57 : decode cF_fits 57 = .ok (.lconst 1, 1) := by decide +kernel
theorem dF_fits_58 : decode cF_fits 58 = .ok (.lcmp, 1) := by decide +kernel
theorem dF_fits_59 : decode cF_fits 59 = .ok (.ifCond .lt 15, 3) := by decide +kernel
theorem dF_fits_62 : decode cF_fits 62 = .ok (.lload_n 1, 1) := by decide +kernel
theorem dF_fits_63 : decode cF_fits 63 = .ok (.ldc2_w 9, 3) := by decide +kernel
theorem dF_fits_66 : decode cF_fits 66 = .ok (.lcmp, 1) := by decide +kernel
theorem dF_fits_67 : decode cF_fits 67 = .ok (.ifCond .gt 7, 3) := by decide +kernel
theorem dF_fits_70 : decode cF_fits 70 = .ok (.iconst 1, 1) := by decide +kernel
theorem dF_fits_71 : decode cF_fits 71 = .ok (.goto 4, 3) := by decide +kernel
theorem dF_fits_74 : decode cF_fits 74 = .ok (.iconst 0, 1) := by decide +kernel
theorem dF_fits_75 : decode cF_fits 75 = .ok (.ireturn, 1) := by decide +kernel
theorem dF_fits_76 : decode cF_fits 76 = .ok (.lload_n 1, 1) := by decide +kernel
theorem dF_fits_77 : decode cF_fits 77 = .ok (.lconst 0, 1) := by decide +kernel
theorem dF_fits_78 : decode cF_fits 78 = .ok (.lcmp, 1) := by decide +kernel
theorem dF_fits_79 : decode cF_fits 79 = .ok (.ifCond .lt 15, 3) := by decide +kernel
theorem dF_fits_82 : decode cF_fits 82 = .ok (.lload_n 1, 1) := by decide +kernel
theorem dF_fits_83 : decode cF_fits 83 = .ok (.ldc2_w 11, 3) := by decide +kernel
theorem dF_fits_86 : decode cF_fits 86 = .ok (.lcmp, 1) := by decide +kernel
theorem dF_fits_87 : decode cF_fits 87 = .ok (.ifCond .gt 7, 3) := by decide +kernel
theorem dF_fits_90 : decode cF_fits 90 = .ok (.iconst 1, 1) := by decide +kernel
theorem dF_fits_91 : decode cF_fits 91 = .ok (.goto 4, 3) := by decide +kernel
theorem dF_fits_94 : decode cF_fits 94 = .ok (.iconst 0, 1) := by decide +kernel
theorem dF_fits_95 : decode cF_fits 95 = .ok (.ireturn, 1) := by decide +kernel
theorem dF_fits_96 : decode cF_fits 96 = .ok (.iconst 1, 1) := by decide +kernel
theorem dF_fits_97 : decode cF_fits 97 = .ok (.ireturn, 1) := by decide +kernel
theorem dF_fits_98 : decode cF_fits 98 = .ok (.lload_n 1, 1) := by decide +kernel
theorem dF_fits_99 : decode cF_fits 99 = .ok (.lconst 0, 1) := by decide +kernel
theorem dF_fits_100 : decode cF_fits 100 = .ok (.lcmp, 1) := by decide +kernel
theorem dF_fits_101 : decode cF_fits 101 = .ok (.ifCond .lt 15, 3) := by decide +kernel
theorem dF_fits_104 : decode cF_fits 104 = .ok (.lload_n 1, 1) := by decide +kernel
theorem dF_fits_105 : decode cF_fits 105 = .ok (.ldc2_w 13, 3) := by decide +kernel
theorem dF_fits_108 : decode cF_fits 108 = .ok (.lcmp, 1) := by decide +kernel
theorem dF_fits_109 : decode cF_fits 109 = .ok (.ifCond .gt 7, 3) := by decide +kernel
theorem dF_fits_112 : decode cF_fits 112 = .ok (.iconst 1, 1) := by decide +kernel
theorem dF_fits_113 : decode cF_fits 113 = .ok (.goto 4, 3) := by decide +kernel
theorem dF_fits_116 : decode cF_fits 116 = .ok (.iconst 0, 1) := by decide +kernel
theorem dF_fits_117 : decode cF_fits 117 = .ok (.ireturn, 1) := by decide +kernel
theorem dF_fits_118 : decode cF_fits 118 = .ok (.lload_n 1, 1) := by decide +kernel
theorem dF_fits_119 : decode cF_fits 119 = .ok (.lconst 0, 1) := by decide +kernel
theorem dF_fits_120 : decode cF_fits 120 = .ok (.lcmp, 1) := by decide +kernel
theorem dF_fits_121 : decode cF_fits 121 = .ok (.ifCond .eq 9, 3) := by decide +kernel
theorem dF_fits_124 : decode cF_fits 124 = .ok (.lload_n 1, 1) := by decide +kernel
theorem dF_fits_125 : decode cF_fits 125 = .ok (.lconst 1, 1) := by decide +kernel
theorem dF_fits_126 : decode cF_fits 126 = .ok (.lcmp, 1) := by decide +kernel
theorem dF_fits_127 : decode cF_fits 127 = .ok (.ifCond .ne 7, 3) := by decide +kernel
theorem dF_fits_130 : decode cF_fits 130 = .ok (.iconst 1, 1) := by decide +kernel
theorem dF_fits_131 : decode cF_fits 131 = .ok (.goto 4, 3) := by decide +kernel
theorem dF_fits_134 : decode cF_fits 134 = .ok (.iconst 0, 1) := by decide +kernel
theorem dF_fits_135 : decode cF_fits 135 = .ok (.ireturn, 1) := by decide +kernel
theorem dF_fits_136 : decode cF_fits 136 = .ok (.lload_n 1, 1) := by decide +kernel
theorem dF_fits_137 : decode cF_fits 137 = .ok (.lconst 0, 1) := by decide +kernel
theorem dF_fits_138 : decode cF_fits 138 = .ok (.lcmp, 1) := by decide +kernel
theorem dF_fits_139 : decode cF_fits 139 = .ok (.ifCond .ne 7, 3) := by decide +kernel
theorem dF_fits_142 : decode cF_fits 142 = .ok (.iconst 1, 1) := by decide +kernel
theorem dF_fits_143 : decode cF_fits 143 = .ok (.goto 4, 3) := by decide +kernel
theorem dF_fits_146 : decode cF_fits 146 = .ok (.iconst 0, 1) := by decide +kernel
theorem dF_fits_147 : decode cF_fits 147 = .ok (.ireturn, 1) := by decide +kernel
theorem dF_ownLength_0 : decode cF_ownLength 0 = .ok (.iload_n 0, 1) := by decide +kernel
theorem dF_ownLength_1 : decode cF_ownLength 1 = .ok (.tableswitch 76 0 9 #[55, 76, 76, 76, 76, 76, 74, 62, 69, 74], 55) := by decide +kernel
theorem dF_ownLength_56 : decode cF_ownLength 56 = .ok (.iconst 1, 1) := by decide +kernel
theorem dF_ownLength_57 : decode cF_ownLength 57 = .ok (.lload_n 1, 1) := by decide +kernel
theorem dF_ownLength_58 : decode cF_ownLength 58 = .ok (.invokestatic 15, 3) := by decide +kernel
theorem dF_ownLength_61 : decode cF_ownLength 61 = .ok (.iadd, 1) := by decide +kernel
theorem dF_ownLength_62 : decode cF_ownLength 62 = .ok (.ireturn, 1) := by decide +kernel
theorem dF_ownLength_63 : decode cF_ownLength 63 = .ok (.iconst 1, 1) := by decide +kernel
theorem dF_ownLength_64 : decode cF_ownLength 64 = .ok (.lload_n 1, 1) := by decide +kernel
theorem dF_ownLength_65 : decode cF_ownLength 65 = .ok (.invokestatic 21, 3) := by decide +kernel
theorem dF_ownLength_68 : decode cF_ownLength 68 = .ok (.iadd, 1) := by decide +kernel
theorem dF_ownLength_69 : decode cF_ownLength 69 = .ok (.ireturn, 1) := by decide +kernel
theorem dF_ownLength_70 : decode cF_ownLength 70 = .ok (.iconst 2, 1) := by decide +kernel
theorem dF_ownLength_71 : decode cF_ownLength 71 = .ok (.lload_n 1, 1) := by decide +kernel
theorem dF_ownLength_72 : decode cF_ownLength 72 = .ok (.l2i, 1) := by decide +kernel
theorem dF_ownLength_73 : decode cF_ownLength 73 = .ok (.iadd, 1) := by decide +kernel
theorem dF_ownLength_74 : decode cF_ownLength 74 = .ok (.ireturn, 1) := by decide +kernel
theorem dF_ownLength_75 : decode cF_ownLength 75 = .ok (.iconst 2, 1) := by decide +kernel
theorem dF_ownLength_76 : decode cF_ownLength 76 = .ok (.ireturn, 1) := by decide +kernel
theorem dF_ownLength_77 : decode cF_ownLength 77 = .ok (.iconst 1, 1) := by decide +kernel
theorem dF_ownLength_78 : decode cF_ownLength 78 = .ok (.ireturn, 1) := by decide +kernel
theorem dF_unsignedGroups_0 : decode cF_unsignedGroups 0 = .ok (.iconst 1, 1) := by decide +kernel
theorem dF_unsignedGroups_1 : decode cF_unsignedGroups 1 = .ok (.istore_n 2, 1) := by decide +kernel
theorem dF_unsignedGroups_2 : decode cF_unsignedGroups 2 = .ok (.iload_n 2, 1) := by decide +kernel
theorem dF_unsignedGroups_3 : decode cF_unsignedGroups 3 = .ok (.iconst 5, 1) := by decide +kernel
theorem dF_unsignedGroups_4 : decode cF_unsignedGroups 4 = .ok (.if_icmp .ge 22, 3) := by decide +kernel
theorem dF_unsignedGroups_7 : decode cF_unsignedGroups 7 = .ok (.lload_n 0, 1) := by decide +kernel
theorem dF_unsignedGroups_8 : decode cF_unsignedGroups 8 = .ok (.bipush 7, 2) := by decide +kernel
theorem dF_unsignedGroups_10 : decode cF_unsignedGroups 10 = .ok (.iload_n 2, 1) := by decide +kernel
theorem dF_unsignedGroups_11 : decode cF_unsignedGroups 11 = .ok (.imul, 1) := by decide +kernel
theorem dF_unsignedGroups_12 : decode cF_unsignedGroups 12 = .ok (.lushr, 1) := by decide +kernel
theorem dF_unsignedGroups_13 : decode cF_unsignedGroups 13 = .ok (.lconst 0, 1) := by decide +kernel
theorem dF_unsignedGroups_14 : decode cF_unsignedGroups 14 = .ok (.lcmp, 1) := by decide +kernel
theorem dF_unsignedGroups_15 : decode cF_unsignedGroups 15 = .ok (.ifCond .ne 5, 3) := by decide +kernel
theorem dF_unsignedGroups_18 : decode cF_unsignedGroups 18 = .ok (.iload_n 2, 1) := by decide +kernel
theorem dF_unsignedGroups_19 : decode cF_unsignedGroups 19 = .ok (.ireturn, 1) := by decide +kernel
theorem dF_unsignedGroups_20 : decode cF_unsignedGroups 20 = .ok (.iinc 2 1, 3) := by decide +kernel
theorem dF_unsignedGroups_23 : decode cF_unsignedGroups 23 = .ok (.goto (-21), 3) := by decide +kernel
theorem dF_unsignedGroups_26 : decode cF_unsignedGroups 26 = .ok (.iconst 5, 1) := by decide +kernel
theorem dF_unsignedGroups_27 : decode cF_unsignedGroups 27 = .ok (.ireturn, 1) := by decide +kernel
theorem dF_signedGroups_0 : decode cF_signedGroups 0 = .ok (.iconst 1, 1) := by decide +kernel
theorem dF_signedGroups_1 : decode cF_signedGroups 1 = .ok (.istore_n 2, 1) := by decide +kernel
theorem dF_signedGroups_2 : decode cF_signedGroups 2 = .ok (.iload_n 2, 1) := by decide +kernel
theorem dF_signedGroups_3 : decode cF_signedGroups 3 = .ok (.bipush 10, 2) := by decide +kernel
theorem dF_signedGroups_5 : decode cF_signedGroups 5 = .ok (.if_icmp .ge 34, 3) := by decide +kernel
theorem dF_signedGroups_8 : decode cF_signedGroups 8 = .ok (.lload_n 0, 1) := by decide +kernel
theorem dF_signedGroups_9 : decode cF_signedGroups 9 = .ok (.bipush 7, 2) := by decide +kernel
theorem dF_signedGroups_11 : decode cF_signedGroups 11 = .ok (.iload_n 2, 1) := by decide +kernel
theorem dF_signedGroups_12 : decode cF_signedGroups 12 = .ok (.imul, 1) := by decide +kernel
theorem dF_signedGroups_13 : decode cF_signedGroups 13 = .ok (.iconst 1, 1) := by decide +kernel
theorem dF_signedGroups_14 : decode cF_signedGroups 14 = .ok (.isub, 1) := by decide +kernel
theorem dF_signedGroups_15 : decode cF_signedGroups 15 = .ok (.lshr, 1) := by decide +kernel
theorem dF_signedGroups_16 : decode cF_signedGroups 16 = .ok (.lstore_n 3, 1) := by decide +kernel
theorem dF_signedGroups_17 : decode cF_signedGroups 17 = .ok (.lload_n 3, 1) := by decide +kernel
theorem dF_signedGroups_18 : decode cF_signedGroups 18 = .ok (.lconst 0, 1) := by decide +kernel
theorem dF_signedGroups_19 : decode cF_signedGroups 19 = .ok (.lcmp, 1) := by decide +kernel
theorem dF_signedGroups_20 : decode cF_signedGroups 20 = .ok (.ifCond .eq 11, 3) := by decide +kernel
theorem dF_signedGroups_23 : decode cF_signedGroups 23 = .ok (.lload_n 3, 1) := by decide +kernel
theorem dF_signedGroups_24 : decode cF_signedGroups 24 = .ok (.ldc2_w 24, 3) := by decide +kernel
theorem dF_signedGroups_27 : decode cF_signedGroups 27 = .ok (.lcmp, 1) := by decide +kernel
theorem dF_signedGroups_28 : decode cF_signedGroups 28 = .ok (.ifCond .ne 5, 3) := by decide +kernel
theorem dF_signedGroups_31 : decode cF_signedGroups 31 = .ok (.iload_n 2, 1) := by decide +kernel
theorem dF_signedGroups_32 : decode cF_signedGroups 32 = .ok (.ireturn, 1) := by decide +kernel
theorem dF_signedGroups_33 : decode cF_signedGroups 33 = .ok (.iinc 2 1, 3) := by decide +kernel
theorem dF_signedGroups_36 : decode cF_signedGroups 36 = .ok (.goto (-34), 3) := by decide +kernel
theorem dF_signedGroups_39 : decode cF_signedGroups 39 = .ok (.bipush 10, 2) := by decide +kernel
theorem dF_signedGroups_41 : decode cF_signedGroups 41 = .ok (.ireturn, 1) := by decide +kernel
theorem dF_byteOf_0 : decode cF_byteOf 0 = .ok (.lload_n 0, 1) := by decide +kernel
theorem dF_byteOf_1 : decode cF_byteOf 1 = .ok (.bipush 8, 2) := by decide +kernel
theorem dF_byteOf_3 : decode cF_byteOf 3 = .ok (.iload_n 2, 1) := by decide +kernel
theorem dF_byteOf_4 : decode cF_byteOf 4 = .ok (.imul, 1) := by decide +kernel
theorem dF_byteOf_5 : decode cF_byteOf 5 = .ok (.lushr, 1) := by decide +kernel
theorem dF_byteOf_6 : decode cF_byteOf 6 = .ok (.l2i, 1) := by decide +kernel
theorem dF_byteOf_7 : decode cF_byteOf 7 = .ok (.sipush 255, 3) := by decide +kernel
theorem dF_byteOf_10 : decode cF_byteOf 10 = .ok (.iand, 1) := by decide +kernel
theorem dF_byteOf_11 : decode cF_byteOf 11 = .ok (.ireturn, 1) := by decide +kernel
