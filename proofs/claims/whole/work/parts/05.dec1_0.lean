theorem dX1_init_0 : decode cX1_init 0 = .ok (.aload_n 0, 1) := by decide +kernel
theorem dX1_init_1 : decode cX1_init 1 = .ok (.invokespecial 1, 3) := by decide +kernel
theorem dX1_init_4 : decode cX1_init 4 = .ok (.aload_n 0, 1) := by decide +kernel
theorem dX1_init_5 : decode cX1_init 5 = .ok (.ldc 7, 2) := by decide +kernel
theorem dX1_init_7 : decode cX1_init 7 = .ok (.newarray .int, 2) := by decide +kernel
theorem dX1_init_9 : decode cX1_init 9 = .ok (.putfield 8, 3) := by decide +kernel
theorem dX1_init_12 : decode cX1_init 12 = .ok (.aload_n 0, 1) := by decide +kernel
theorem dX1_init_13 : decode cX1_init 13 = .ok (.bipush 32, 2) := by decide +kernel
theorem dX1_init_15 : decode cX1_init 15 = .ok (.newarray .int, 2) := by decide +kernel
theorem dX1_init_17 : decode cX1_init 17 = .ok (.putfield 14, 3) := by decide +kernel
theorem dX1_init_20 : decode cX1_init 20 = .ok (.aload_n 0, 1) := by decide +kernel
theorem dX1_init_21 : decode cX1_init 21 = .ok (.iconst 1, 1) := by decide +kernel
theorem dX1_init_22 : decode cX1_init 22 = .ok (.putfield 17, 3) := by decide +kernel
theorem dX1_init_25 : decode cX1_init 25 = .ok (.aload_n 0, 1) := by decide +kernel
theorem dX1_init_26 : decode cX1_init 26 = .ok (.iconst (-1), 1) := by decide +kernel
theorem dX1_init_27 : decode cX1_init 27 = .ok (.putfield 21, 3) := by decide +kernel
theorem dX1_init_30 : decode cX1_init 30 = .ok (.aload_n 0, 1) := by decide +kernel
theorem dX1_init_31 : decode cX1_init 31 = .ok (.iconst (-1), 1) := by decide +kernel
theorem dX1_init_32 : decode cX1_init 32 = .ok (.putfield 24, 3) := by decide +kernel
theorem dX1_init_35 : decode cX1_init 35 = .ok (.aload_n 0, 1) := by decide +kernel
theorem dX1_init_36 : decode cX1_init 36 = .ok (.iconst 0, 1) := by decide +kernel
theorem dX1_init_37 : decode cX1_init 37 = .ok (.putfield 27, 3) := by decide +kernel
theorem dX1_init_40 : decode cX1_init 40 = .ok (.return_, 1) := by decide +kernel
theorem dX1_thrown_0 : decode cX1_thrown 0 = .ok (.aload_n 0, 1) := by decide +kernel
theorem dX1_thrown_1 : decode cX1_thrown 1 = .ok (.getfield 31, 3) := by decide +kernel
theorem dX1_thrown_4 : decode cX1_thrown 4 = .ok (.ireturn, 1) := by decide +kernel
theorem dX1_plain_0 : decode cX1_plain 0 = .ok (.iload_n 0, 1) := by decide +kernel
theorem dX1_plain_1 : decode cX1_plain 1 = .ok (.i2l, 1) := by decide +kernel
theorem dX1_plain_2 : decode cX1_plain 2 = .ok (.ldc2_w 34, 3) := by decide +kernel
theorem dX1_plain_5 : decode cX1_plain 5 = .ok (.land, 1) := by decide +kernel
theorem dX1_plain_6 : decode cX1_plain 6 = .ok (.lreturn, 1) := by decide +kernel
theorem dX1_bits_0 : decode cX1_bits 0 = .ok (.iload_n 0, 1) := by decide +kernel
theorem dX1_bits_1 : decode cX1_bits 1 = .ok (.invokestatic 36, 3) := by decide +kernel
theorem dX1_bits_4 : decode cX1_bits 4 = .ok (.iload_n 1, 1) := by decide +kernel
theorem dX1_bits_5 : decode cX1_bits 5 = .ok (.lshr, 1) := by decide +kernel
theorem dX1_bits_6 : decode cX1_bits 6 = .ok (.lconst 1, 1) := by decide +kernel
theorem dX1_bits_7 : decode cX1_bits 7 = .ok (.iload_n 2, 1) := by decide +kernel
theorem dX1_bits_8 : decode cX1_bits 8 = .ok (.iload_n 1, 1) := by decide +kernel
theorem dX1_bits_9 : decode cX1_bits 9 = .ok (.isub, 1) := by decide +kernel
theorem dX1_bits_10 : decode cX1_bits 10 = .ok (.iconst 1, 1) := by decide +kernel
theorem dX1_bits_11 : decode cX1_bits 11 = .ok (.iadd, 1) := by decide +kernel
theorem dX1_bits_12 : decode cX1_bits 12 = .ok (.lshl, 1) := by decide +kernel
theorem dX1_bits_13 : decode cX1_bits 13 = .ok (.lconst 1, 1) := by decide +kernel
theorem dX1_bits_14 : decode cX1_bits 14 = .ok (.lsub, 1) := by decide +kernel
theorem dX1_bits_15 : decode cX1_bits 15 = .ok (.land, 1) := by decide +kernel
theorem dX1_bits_16 : decode cX1_bits 16 = .ok (.l2i, 1) := by decide +kernel
theorem dX1_bits_17 : decode cX1_bits 17 = .ok (.ireturn, 1) := by decide +kernel
theorem dX1_has_0 : decode cX1_has 0 = .ok (.iload_n 0, 1) := by decide +kernel
theorem dX1_has_1 : decode cX1_has 1 = .ok (.iload_n 1, 1) := by decide +kernel
theorem dX1_has_2 : decode cX1_has 2 = .ok (.ishr, 1) := by decide +kernel
theorem dX1_has_3 : decode cX1_has 3 = .ok (.iconst 1, 1) := by decide +kernel
theorem dX1_has_4 : decode cX1_has 4 = .ok (.iand, 1) := by decide +kernel
theorem dX1_has_5 : decode cX1_has 5 = .ok (.iconst 1, 1) := by decide +kernel
theorem dX1_has_6 : decode cX1_has 6 = .ok (.if_icmp .ne 7, 3) := by decide +kernel
theorem dX1_has_9 : decode cX1_has 9 = .ok (.iconst 1, 1) := by decide +kernel
theorem dX1_has_10 : decode cX1_has 10 = .ok (.goto 4, 3) := by decide +kernel
theorem dX1_has_13 : decode cX1_has 13 = .ok (.iconst 0, 1) := by decide +kernel
theorem dX1_has_14 : decode cX1_has 14 = .ok (.ireturn, 1) := by decide +kernel
theorem dX1_isWord_0 : decode cX1_isWord 0 = .ok (.iload_n 0, 1) := by decide +kernel
theorem dX1_isWord_1 : decode cX1_isWord 1 = .ok (.invokestatic 36, 3) := by decide +kernel
theorem dX1_isWord_4 : decode cX1_isWord 4 = .ok (.ldc2_w 40, 3) := by decide +kernel
theorem dX1_isWord_7 : decode cX1_isWord 7 = .ok (.lcmp, 1) := by decide +kernel
theorem dX1_isWord_8 : decode cX1_isWord 8 = .ok (.ifCond .ge 7, 3) := by decide +kernel
theorem dX1_isWord_11 : decode cX1_isWord 11 = .ok (.iconst 1, 1) := by decide +kernel
theorem dX1_isWord_12 : decode cX1_isWord 12 = .ok (.goto 4, 3) := by decide +kernel
theorem dX1_isWord_15 : decode cX1_isWord 15 = .ok (.iconst 0, 1) := by decide +kernel
theorem dX1_isWord_16 : decode cX1_isWord 16 = .ok (.ireturn, 1) := by decide +kernel
theorem dX1_pageCause_0 : decode cX1_pageCause 0 = .ok (.iload_n 0, 1) := by decide +kernel
theorem dX1_pageCause_1 : decode cX1_pageCause 1 = .ok (.ifCond .ne 8, 3) := by decide +kernel
theorem dX1_pageCause_4 : decode cX1_pageCause 4 = .ok (.bipush 12, 2) := by decide +kernel
theorem dX1_pageCause_6 : decode cX1_pageCause 6 = .ok (.goto 15, 3) := by decide +kernel
theorem dX1_pageCause_9 : decode cX1_pageCause 9 = .ok (.iload_n 0, 1) := by decide +kernel
theorem dX1_pageCause_10 : decode cX1_pageCause 10 = .ok (.iconst 1, 1) := by decide +kernel
theorem dX1_pageCause_11 : decode cX1_pageCause 11 = .ok (.if_icmp .ne 8, 3) := by decide +kernel
theorem dX1_pageCause_14 : decode cX1_pageCause 14 = .ok (.bipush 13, 2) := by decide +kernel
theorem dX1_pageCause_16 : decode cX1_pageCause 16 = .ok (.goto 5, 3) := by decide +kernel
theorem dX1_pageCause_19 : decode cX1_pageCause 19 = .ok (.bipush 15, 2) := by decide +kernel
theorem dX1_pageCause_21 : decode cX1_pageCause 21 = .ok (.ireturn, 1) := by decide +kernel
theorem dX1_accessCause_0 : decode cX1_accessCause 0 = .ok (.iload_n 0, 1) := by decide +kernel
theorem dX1_accessCause_1 : decode cX1_accessCause 1 = .ok (.ifCond .ne 7, 3) := by decide +kernel
theorem dX1_accessCause_4 : decode cX1_accessCause 4 = .ok (.iconst 1, 1) := by decide +kernel
theorem dX1_accessCause_5 : decode cX1_accessCause 5 = .ok (.goto 14, 3) := by decide +kernel
theorem dX1_accessCause_8 : decode cX1_accessCause 8 = .ok (.iload_n 0, 1) := by decide +kernel
theorem dX1_accessCause_9 : decode cX1_accessCause 9 = .ok (.iconst 1, 1) := by decide +kernel
theorem dX1_accessCause_10 : decode cX1_accessCause 10 = .ok (.if_icmp .ne 7, 3) := by decide +kernel
theorem dX1_accessCause_13 : decode cX1_accessCause 13 = .ok (.iconst 5, 1) := by decide +kernel
theorem dX1_accessCause_14 : decode cX1_accessCause 14 = .ok (.goto 5, 3) := by decide +kernel
theorem dX1_accessCause_17 : decode cX1_accessCause 17 = .ok (.bipush 7, 2) := by decide +kernel
theorem dX1_accessCause_19 : decode cX1_accessCause 19 = .ok (.ireturn, 1) := by decide +kernel
theorem dX1_lets_0 : decode cX1_lets 0 = .ok (.iload_n 1, 1) := by decide +kernel
theorem dX1_lets_1 : decode cX1_lets 1 = .ok (.iconst 0, 1) := by decide +kernel
theorem dX1_lets_2 : decode cX1_lets 2 = .ok (.invokestatic 42, 3) := by decide +kernel
theorem dX1_lets_5 : decode cX1_lets 5 = .ok (.ifCond .eq 48, 3) := by decide +kernel
theorem dX1_lets_8 : decode cX1_lets 8 = .ok (.iload_n 1, 1) := by decide +kernel
theorem dX1_lets_9 : decode cX1_lets 9 = .ok (.iconst 2, 1) := by decide +kernel
theorem dX1_lets_10 : decode cX1_lets 10 = .ok (.invokestatic 42, 3) := by decide +kernel
theorem dX1_lets_13 : decode cX1_lets 13 = .ok (.ifCond .eq 11, 3) := by decide +kernel
theorem dX1_lets_16 : decode cX1_lets 16 = .ok (.iload_n 1, 1) := by decide +kernel
theorem dX1_lets_17 : decode cX1_lets 17 = .ok (.iconst 1, 1) := by decide +kernel
theorem dX1_lets_18 : decode cX1_lets 18 = .ok (.invokestatic 42, 3) := by decide +kernel
theorem dX1_lets_21 : decode cX1_lets 21 = .ok (.ifCond .eq 32, 3) := by decide +kernel
theorem dX1_lets_24 : decode cX1_lets 24 = .ok (.iload_n 1, 1) := by decide +kernel
theorem dX1_lets_25 : decode cX1_lets 25 = .ok (.iconst 1, 1) := by decide +kernel
theorem dX1_lets_26 : decode cX1_lets 26 = .ok (.invokestatic 42, 3) := by decide +kernel
theorem dX1_lets_29 : decode cX1_lets 29 = .ok (.ifCond .ne 11, 3) := by decide +kernel
theorem dX1_lets_32 : decode cX1_lets 32 = .ok (.iload_n 1, 1) := by decide +kernel
theorem dX1_lets_33 : decode cX1_lets 33 = .ok (.iconst 3, 1) := by decide +kernel
theorem dX1_lets_34 : decode cX1_lets 34 = .ok (.invokestatic 42, 3) := by decide +kernel
theorem dX1_lets_37 : decode cX1_lets 37 = .ok (.ifCond .eq 16, 3) := by decide +kernel
theorem dX1_lets_40 : decode cX1_lets 40 = .ok (.iload_n 1, 1) := by decide +kernel
theorem dX1_lets_41 : decode cX1_lets 41 = .ok (.bipush 6, 2) := by decide +kernel
theorem dX1_lets_43 : decode cX1_lets 43 = .ok (.invokestatic 42, 3) := by decide +kernel
theorem dX1_lets_46 : decode cX1_lets 46 = .ok (.ifCond .eq 7, 3) := by decide +kernel
theorem dX1_lets_49 : decode cX1_lets 49 = .ok (.iconst 1, 1) := by decide +kernel
theorem dX1_lets_50 : decode cX1_lets 50 = .ok (.goto 4, 3) := by decide +kernel
theorem dX1_lets_53 : decode cX1_lets 53 = .ok (.iconst 0, 1) := by decide +kernel
theorem dX1_lets_54 : decode cX1_lets 54 = .ok (.istore 4, 2) := by decide +kernel
theorem dX1_lets_56 : decode cX1_lets 56 = .ok (.iload 4, 2) := by decide +kernel
theorem dX1_lets_58 : decode cX1_lets 58 = .ok (.ifCond .eq 22, 3) := by decide +kernel
theorem dX1_lets_61 : decode cX1_lets 61 = .ok (.iload_n 3, 1) := by decide +kernel
theorem dX1_lets_62 : decode cX1_lets 62 = .ok (.ifCond .eq 14, 3) := by decide +kernel
theorem dX1_lets_65 : decode cX1_lets 65 = .ok (.iload_n 1, 1) := by decide +kernel
theorem dX1_lets_66 : decode cX1_lets 66 = .ok (.bipush 10, 2) := by decide +kernel
theorem dX1_lets_68 : decode cX1_lets 68 = .ok (.bipush 19, 2) := by decide +kernel
theorem dX1_lets_70 : decode cX1_lets 70 = .ok (.invokestatic 46, 3) := by decide +kernel
theorem dX1_lets_73 : decode cX1_lets 73 = .ok (.ifCond .ne 7, 3) := by decide +kernel
theorem dX1_lets_76 : decode cX1_lets 76 = .ok (.iconst 1, 1) := by decide +kernel
theorem dX1_lets_77 : decode cX1_lets 77 = .ok (.goto 4, 3) := by decide +kernel
theorem dX1_lets_80 : decode cX1_lets 80 = .ok (.iconst 0, 1) := by decide +kernel
theorem dX1_lets_81 : decode cX1_lets 81 = .ok (.istore 4, 2) := by decide +kernel
theorem dX1_lets_83 : decode cX1_lets 83 = .ok (.iload 4, 2) := by decide +kernel
theorem dX1_lets_85 : decode cX1_lets 85 = .ok (.ifCond .eq 56, 3) := by decide +kernel
theorem dX1_lets_88 : decode cX1_lets 88 = .ok (.iload_n 2, 1) := by decide +kernel
theorem dX1_lets_89 : decode cX1_lets 89 = .ok (.iconst 1, 1) := by decide +kernel
theorem dX1_lets_90 : decode cX1_lets 90 = .ok (.if_icmp .ne 14, 3) := by decide +kernel
theorem dX1_lets_93 : decode cX1_lets 93 = .ok (.iload_n 1, 1) := by decide +kernel
theorem dX1_lets_94 : decode cX1_lets 94 = .ok (.iconst 1, 1) := by decide +kernel
theorem dX1_lets_95 : decode cX1_lets 95 = .ok (.invokestatic 42, 3) := by decide +kernel
theorem dX1_lets_98 : decode cX1_lets 98 = .ok (.ifCond .eq 43, 3) := by decide +kernel
theorem dX1_lets_101 : decode cX1_lets 101 = .ok (.goto 36, 3) := by decide +kernel
theorem dX1_lets_104 : decode cX1_lets 104 = .ok (.iload_n 2, 1) := by decide +kernel
theorem dX1_lets_105 : decode cX1_lets 105 = .ok (.iconst 2, 1) := by decide +kernel
theorem dX1_lets_106 : decode cX1_lets 106 = .ok (.if_icmp .ne 23, 3) := by decide +kernel
theorem dX1_lets_109 : decode cX1_lets 109 = .ok (.iload_n 1, 1) := by decide +kernel
theorem dX1_lets_110 : decode cX1_lets 110 = .ok (.iconst 2, 1) := by decide +kernel
theorem dX1_lets_111 : decode cX1_lets 111 = .ok (.invokestatic 42, 3) := by decide +kernel
theorem dX1_lets_114 : decode cX1_lets 114 = .ok (.ifCond .eq 27, 3) := by decide +kernel
theorem dX1_lets_117 : decode cX1_lets 117 = .ok (.iload_n 1, 1) := by decide +kernel
theorem dX1_lets_118 : decode cX1_lets 118 = .ok (.bipush 7, 2) := by decide +kernel
theorem dX1_lets_120 : decode cX1_lets 120 = .ok (.invokestatic 42, 3) := by decide +kernel
theorem dX1_lets_123 : decode cX1_lets 123 = .ok (.ifCond .eq 18, 3) := by decide +kernel
theorem dX1_lets_126 : decode cX1_lets 126 = .ok (.goto 11, 3) := by decide +kernel
theorem dX1_lets_129 : decode cX1_lets 129 = .ok (.iload_n 1, 1) := by decide +kernel
theorem dX1_lets_130 : decode cX1_lets 130 = .ok (.iconst 3, 1) := by decide +kernel
theorem dX1_lets_131 : decode cX1_lets 131 = .ok (.invokestatic 42, 3) := by decide +kernel
theorem dX1_lets_134 : decode cX1_lets 134 = .ok (.ifCond .eq 7, 3) := by decide +kernel
theorem dX1_lets_137 : decode cX1_lets 137 = .ok (.iconst 1, 1) := by decide +kernel
theorem dX1_lets_138 : decode cX1_lets 138 = .ok (.goto 4, 3) := by decide +kernel
theorem dX1_lets_141 : decode cX1_lets 141 = .ok (.iconst 0, 1) := by decide +kernel
theorem dX1_lets_142 : decode cX1_lets 142 = .ok (.istore 4, 2) := by decide +kernel
theorem dX1_lets_144 : decode cX1_lets 144 = .ok (.aload_n 0, 1) := by decide +kernel
theorem dX1_lets_145 : decode cX1_lets 145 = .ok (.getfield 17, 3) := by decide +kernel
theorem dX1_lets_148 : decode cX1_lets 148 = .ok (.ifCond .ne 22, 3) := by decide +kernel
theorem dX1_lets_151 : decode cX1_lets 151 = .ok (.iload 4, 2) := by decide +kernel
theorem dX1_lets_153 : decode cX1_lets 153 = .ok (.ifCond .eq 15, 3) := by decide +kernel
theorem dX1_lets_156 : decode cX1_lets 156 = .ok (.iload_n 1, 1) := by decide +kernel
theorem dX1_lets_157 : decode cX1_lets 157 = .ok (.iconst 4, 1) := by decide +kernel
theorem dX1_lets_158 : decode cX1_lets 158 = .ok (.invokestatic 42, 3) := by decide +kernel
theorem dX1_lets_161 : decode cX1_lets 161 = .ok (.ifCond .eq 7, 3) := by decide +kernel
theorem dX1_lets_164 : decode cX1_lets 164 = .ok (.iconst 1, 1) := by decide +kernel
theorem dX1_lets_165 : decode cX1_lets 165 = .ok (.goto 4, 3) := by decide +kernel
theorem dX1_lets_168 : decode cX1_lets 168 = .ok (.iconst 0, 1) := by decide +kernel
theorem dX1_lets_169 : decode cX1_lets 169 = .ok (.ireturn, 1) := by decide +kernel
theorem dX1_lets_170 : decode cX1_lets 170 = .ok (.iload 4, 2) := by decide +kernel
theorem dX1_lets_172 : decode cX1_lets 172 = .ok (.ifCond .eq 29, 3) := by decide +kernel
theorem dX1_lets_175 : decode cX1_lets 175 = .ok (.iload_n 1, 1) := by decide +kernel
theorem dX1_lets_176 : decode cX1_lets 176 = .ok (.iconst 4, 1) := by decide +kernel
theorem dX1_lets_177 : decode cX1_lets 177 = .ok (.invokestatic 42, 3) := by decide +kernel
theorem dX1_lets_180 : decode cX1_lets 180 = .ok (.ifCond .eq 17, 3) := by decide +kernel
theorem dX1_lets_183 : decode cX1_lets 183 = .ok (.iload_n 2, 1) := by decide +kernel
theorem dX1_lets_184 : decode cX1_lets 184 = .ok (.ifCond .eq 17, 3) := by decide +kernel
theorem dX1_lets_187 : decode cX1_lets 187 = .ok (.aload_n 0, 1) := by decide +kernel
theorem dX1_lets_188 : decode cX1_lets 188 = .ok (.getfield 50, 3) := by decide +kernel
theorem dX1_lets_191 : decode cX1_lets 191 = .ok (.ldc 53, 2) := by decide +kernel
theorem dX1_lets_193 : decode cX1_lets 193 = .ok (.iand, 1) := by decide +kernel
theorem dX1_lets_194 : decode cX1_lets 194 = .ok (.ifCond .eq 7, 3) := by decide +kernel
theorem dX1_lets_197 : decode cX1_lets 197 = .ok (.iconst 1, 1) := by decide +kernel
theorem dX1_lets_198 : decode cX1_lets 198 = .ok (.goto 4, 3) := by decide +kernel
theorem dX1_lets_201 : decode cX1_lets 201 = .ok (.iconst 0, 1) := by decide +kernel
theorem dX1_lets_202 : decode cX1_lets 202 = .ok (.ireturn, 1) := by decide +kernel
theorem dX1_translated_0 : decode cX1_translated 0 = .ok (.aload_n 0, 1) := by decide +kernel
theorem dX1_translated_1 : decode cX1_translated 1 = .ok (.iconst (-1), 1) := by decide +kernel
theorem dX1_translated_2 : decode cX1_translated 2 = .ok (.putfield 54, 3) := by decide +kernel
theorem dX1_translated_5 : decode cX1_translated 5 = .ok (.iload_n 1, 1) := by decide +kernel
theorem dX1_translated_6 : decode cX1_translated 6 = .ok (.istore_n 3, 1) := by decide +kernel
theorem dX1_translated_7 : decode cX1_translated 7 = .ok (.aload_n 0, 1) := by decide +kernel
theorem dX1_translated_8 : decode cX1_translated 8 = .ok (.getfield 57, 3) := by decide +kernel
theorem dX1_translated_11 : decode cX1_translated 11 = .ok (.bipush 31, 2) := by decide +kernel
theorem dX1_translated_13 : decode cX1_translated 13 = .ok (.invokestatic 42, 3) := by decide +kernel
theorem dX1_translated_16 : decode cX1_translated 16 = .ok (.ifCond .eq 205, 3) := by decide +kernel
theorem dX1_translated_19 : decode cX1_translated 19 = .ok (.aload_n 0, 1) := by decide +kernel
theorem dX1_translated_20 : decode cX1_translated 20 = .ok (.getfield 57, 3) := by decide +kernel
theorem dX1_translated_23 : decode cX1_translated 23 = .ok (.iconst 0, 1) := by decide +kernel
theorem dX1_translated_24 : decode cX1_translated 24 = .ok (.bipush 21, 2) := by decide +kernel
theorem dX1_translated_26 : decode cX1_translated 26 = .ok (.invokestatic 46, 3) := by decide +kernel
theorem dX1_translated_29 : decode cX1_translated 29 = .ok (.sipush 4096, 3) := by decide +kernel
theorem dX1_translated_32 : decode cX1_translated 32 = .ok (.imul, 1) := by decide +kernel
theorem dX1_translated_33 : decode cX1_translated 33 = .ok (.iconst 4, 1) := by decide +kernel
theorem dX1_translated_34 : decode cX1_translated 34 = .ok (.iload_n 1, 1) := by decide +kernel
theorem dX1_translated_35 : decode cX1_translated 35 = .ok (.bipush 22, 2) := by decide +kernel
theorem dX1_translated_37 : decode cX1_translated 37 = .ok (.bipush 31, 2) := by decide +kernel
theorem dX1_translated_39 : decode cX1_translated 39 = .ok (.invokestatic 46, 3) := by decide +kernel
theorem dX1_translated_42 : decode cX1_translated 42 = .ok (.imul, 1) := by decide +kernel
theorem dX1_translated_43 : decode cX1_translated 43 = .ok (.iadd, 1) := by decide +kernel
theorem dX1_translated_44 : decode cX1_translated 44 = .ok (.istore 4, 2) := by decide +kernel
theorem dX1_translated_46 : decode cX1_translated 46 = .ok (.iload 4, 2) := by decide +kernel
theorem dX1_translated_48 : decode cX1_translated 48 = .ok (.invokestatic 60, 3) := by decide +kernel
theorem dX1_translated_51 : decode cX1_translated 51 = .ok (.ifCond .ne 13, 3) := by decide +kernel
theorem dX1_translated_54 : decode cX1_translated 54 = .ok (.aload_n 0, 1) := by decide +kernel
theorem dX1_translated_55 : decode cX1_translated 55 = .ok (.iload_n 2, 1) := by decide +kernel
theorem dX1_translated_56 : decode cX1_translated 56 = .ok (.invokestatic 64, 3) := by decide +kernel
theorem dX1_translated_59 : decode cX1_translated 59 = .ok (.putfield 54, 3) := by decide +kernel
theorem dX1_translated_62 : decode cX1_translated 62 = .ok (.iconst 0, 1) := by decide +kernel
theorem dX1_translated_63 : decode cX1_translated 63 = .ok (.ireturn, 1) := by decide +kernel
theorem dX1_translated_64 : decode cX1_translated 64 = .ok (.aload_n 0, 1) := by decide +kernel
theorem dX1_translated_65 : decode cX1_translated 65 = .ok (.getfield 8, 3) := by decide +kernel
theorem dX1_translated_68 : decode cX1_translated 68 = .ok (.iload 4, 2) := by decide +kernel
theorem dX1_translated_70 : decode cX1_translated 70 = .ok (.iconst 4, 1) := by decide +kernel
theorem dX1_translated_71 : decode cX1_translated 71 = .ok (.idiv, 1) := by decide +kernel
theorem dX1_translated_72 : decode cX1_translated 72 = .ok (.iaload, 1) := by decide +kernel
theorem dX1_translated_73 : decode cX1_translated 73 = .ok (.istore 5, 2) := by decide +kernel
theorem dX1_translated_75 : decode cX1_translated 75 = .ok (.iconst 1, 1) := by decide +kernel
theorem dX1_translated_76 : decode cX1_translated 76 = .ok (.istore 6, 2) := by decide +kernel
theorem dX1_translated_78 : decode cX1_translated 78 = .ok (.iload 5, 2) := by decide +kernel
theorem dX1_translated_80 : decode cX1_translated 80 = .ok (.iconst 0, 1) := by decide +kernel
theorem dX1_translated_81 : decode cX1_translated 81 = .ok (.invokestatic 42, 3) := by decide +kernel
theorem dX1_translated_84 : decode cX1_translated 84 = .ok (.ifCond .eq 71, 3) := by decide +kernel
theorem dX1_translated_87 : decode cX1_translated 87 = .ok (.iload 5, 2) := by decide +kernel
theorem dX1_translated_89 : decode cX1_translated 89 = .ok (.iconst 1, 1) := by decide +kernel
theorem dX1_translated_90 : decode cX1_translated 90 = .ok (.iconst 3, 1) := by decide +kernel
theorem dX1_translated_91 : decode cX1_translated 91 = .ok (.invokestatic 46, 3) := by decide +kernel
theorem dX1_translated_94 : decode cX1_translated 94 = .ok (.ifCond .ne 61, 3) := by decide +kernel
theorem dX1_translated_97 : decode cX1_translated 97 = .ok (.iconst 0, 1) := by decide +kernel
theorem dX1_translated_98 : decode cX1_translated 98 = .ok (.istore 6, 2) := by decide +kernel
theorem dX1_translated_100 : decode cX1_translated 100 = .ok (.iload 5, 2) := by decide +kernel
theorem dX1_translated_102 : decode cX1_translated 102 = .ok (.bipush 10, 2) := by decide +kernel
theorem dX1_translated_104 : decode cX1_translated 104 = .ok (.bipush 31, 2) := by decide +kernel
theorem dX1_translated_106 : decode cX1_translated 106 = .ok (.invokestatic 46, 3) := by decide +kernel
theorem dX1_translated_109 : decode cX1_translated 109 = .ok (.sipush 4096, 3) := by decide +kernel
theorem dX1_translated_112 : decode cX1_translated 112 = .ok (.imul, 1) := by decide +kernel
theorem dX1_translated_113 : decode cX1_translated 113 = .ok (.iconst 4, 1) := by decide +kernel
theorem dX1_translated_114 : decode cX1_translated 114 = .ok (.iload_n 1, 1) := by decide +kernel
theorem dX1_translated_115 : decode cX1_translated 115 = .ok (.bipush 12, 2) := by decide +kernel
theorem dX1_translated_117 : decode cX1_translated 117 = .ok (.bipush 21, 2) := by decide +kernel
theorem dX1_translated_119 : decode cX1_translated 119 = .ok (.invokestatic 46, 3) := by decide +kernel
theorem dX1_translated_122 : decode cX1_translated 122 = .ok (.imul, 1) := by decide +kernel
theorem dX1_translated_123 : decode cX1_translated 123 = .ok (.iadd, 1) := by decide +kernel
theorem dX1_translated_124 : decode cX1_translated 124 = .ok (.istore 4, 2) := by decide +kernel
theorem dX1_translated_126 : decode cX1_translated 126 = .ok (.iload 4, 2) := by decide +kernel
theorem dX1_translated_128 : decode cX1_translated 128 = .ok (.invokestatic 60, 3) := by decide +kernel
theorem dX1_translated_131 : decode cX1_translated 131 = .ok (.ifCond .ne 13, 3) := by decide +kernel
theorem dX1_translated_134 : decode cX1_translated 134 = .ok (.aload_n 0, 1) := by decide +kernel
theorem dX1_translated_135 : decode cX1_translated 135 = .ok (.iload_n 2, 1) := by decide +kernel
theorem dX1_translated_136 : decode cX1_translated 136 = .ok (.invokestatic 64, 3) := by decide +kernel
theorem dX1_translated_139 : decode cX1_translated 139 = .ok (.putfield 54, 3) := by decide +kernel
theorem dX1_translated_142 : decode cX1_translated 142 = .ok (.iconst 0, 1) := by decide +kernel
theorem dX1_translated_143 : decode cX1_translated 143 = .ok (.ireturn, 1) := by decide +kernel
theorem dX1_translated_144 : decode cX1_translated 144 = .ok (.aload_n 0, 1) := by decide +kernel
theorem dX1_translated_145 : decode cX1_translated 145 = .ok (.getfield 8, 3) := by decide +kernel
theorem dX1_translated_148 : decode cX1_translated 148 = .ok (.iload 4, 2) := by decide +kernel
theorem dX1_translated_150 : decode cX1_translated 150 = .ok (.iconst 4, 1) := by decide +kernel
theorem dX1_translated_151 : decode cX1_translated 151 = .ok (.idiv, 1) := by decide +kernel
theorem dX1_translated_152 : decode cX1_translated 152 = .ok (.iaload, 1) := by decide +kernel
theorem dX1_translated_153 : decode cX1_translated 153 = .ok (.istore 5, 2) := by decide +kernel
theorem dX1_translated_155 : decode cX1_translated 155 = .ok (.aload_n 0, 1) := by decide +kernel
theorem dX1_translated_156 : decode cX1_translated 156 = .ok (.iload 5, 2) := by decide +kernel
theorem dX1_translated_158 : decode cX1_translated 158 = .ok (.iload_n 2, 1) := by decide +kernel
theorem dX1_translated_159 : decode cX1_translated 159 = .ok (.iload 6, 2) := by decide +kernel
theorem dX1_translated_161 : decode cX1_translated 161 = .ok (.invokevirtual 68, 3) := by decide +kernel
theorem dX1_translated_164 : decode cX1_translated 164 = .ok (.ifCond .ne 13, 3) := by decide +kernel
theorem dX1_translated_167 : decode cX1_translated 167 = .ok (.aload_n 0, 1) := by decide +kernel
theorem dX1_translated_168 : decode cX1_translated 168 = .ok (.iload_n 2, 1) := by decide +kernel
theorem dX1_translated_169 : decode cX1_translated 169 = .ok (.invokestatic 72, 3) := by decide +kernel
theorem dX1_translated_172 : decode cX1_translated 172 = .ok (.putfield 54, 3) := by decide +kernel
theorem dX1_translated_175 : decode cX1_translated 175 = .ok (.iconst 0, 1) := by decide +kernel
theorem dX1_translated_176 : decode cX1_translated 176 = .ok (.ireturn, 1) := by decide +kernel
theorem dX1_translated_177 : decode cX1_translated 177 = .ok (.iload 5, 2) := by decide +kernel
theorem dX1_translated_179 : decode cX1_translated 179 = .ok (.bipush 10, 2) := by decide +kernel
theorem dX1_translated_181 : decode cX1_translated 181 = .ok (.bipush 31, 2) := by decide +kernel
theorem dX1_translated_183 : decode cX1_translated 183 = .ok (.invokestatic 46, 3) := by decide +kernel
theorem dX1_translated_186 : decode cX1_translated 186 = .ok (.sipush 4096, 3) := by decide +kernel
theorem dX1_translated_189 : decode cX1_translated 189 = .ok (.imul, 1) := by decide +kernel
theorem dX1_translated_190 : decode cX1_translated 190 = .ok (.iload_n 1, 1) := by decide +kernel
theorem dX1_translated_191 : decode cX1_translated 191 = .ok (.iconst 0, 1) := by decide +kernel
theorem dX1_translated_192 : decode cX1_translated 192 = .ok (.bipush 11, 2) := by decide +kernel
theorem dX1_translated_194 : decode cX1_translated 194 = .ok (.invokestatic 46, 3) := by decide +kernel
theorem dX1_translated_197 : decode cX1_translated 197 = .ok (.iadd, 1) := by decide +kernel
theorem dX1_translated_198 : decode cX1_translated 198 = .ok (.iload 6, 2) := by decide +kernel
theorem dX1_translated_200 : decode cX1_translated 200 = .ok (.ifCond .eq 18, 3) := by decide +kernel
theorem dX1_translated_203 : decode cX1_translated 203 = .ok (.sipush 4096, 3) := by decide +kernel
theorem dX1_translated_206 : decode cX1_translated 206 = .ok (.iload_n 1, 1) := by decide +kernel
theorem dX1_translated_207 : decode cX1_translated 207 = .ok (.bipush 12, 2) := by decide +kernel
theorem dX1_translated_209 : decode cX1_translated 209 = .ok (.bipush 21, 2) := by decide +kernel
theorem dX1_translated_211 : decode cX1_translated 211 = .ok (.invokestatic 46, 3) := by decide +kernel
theorem dX1_translated_214 : decode cX1_translated 214 = .ok (.imul, 1) := by decide +kernel
theorem dX1_translated_215 : decode cX1_translated 215 = .ok (.goto 4, 3) := by decide +kernel
theorem dX1_translated_218 : decode cX1_translated 218 = .ok (.iconst 0, 1) := by decide +kernel
theorem dX1_translated_219 : decode cX1_translated 219 = .ok (.iadd, 1) := by decide +kernel
theorem dX1_translated_220 : decode cX1_translated 220 = .ok (.istore_n 3, 1) := by decide +kernel
theorem dX1_translated_221 : decode cX1_translated 221 = .ok (.iload_n 3, 1) := by decide +kernel
theorem dX1_translated_222 : decode cX1_translated 222 = .ok (.invokestatic 60, 3) := by decide +kernel
theorem dX1_translated_225 : decode cX1_translated 225 = .ok (.ifCond .ne 11, 3) := by decide +kernel
theorem dX1_translated_228 : decode cX1_translated 228 = .ok (.aload_n 0, 1) := by decide +kernel
theorem dX1_translated_229 : decode cX1_translated 229 = .ok (.iload_n 2, 1) := by decide +kernel
theorem dX1_translated_230 : decode cX1_translated 230 = .ok (.invokestatic 64, 3) := by decide +kernel
theorem dX1_translated_233 : decode cX1_translated 233 = .ok (.putfield 54, 3) := by decide +kernel
theorem dX1_translated_236 : decode cX1_translated 236 = .ok (.iload_n 3, 1) := by decide +kernel
theorem dX1_translated_237 : decode cX1_translated 237 = .ok (.ireturn, 1) := by decide +kernel
theorem dX1_trap_0 : decode cX1_trap 0 = .ok (.aload_n 0, 1) := by decide +kernel
theorem dX1_trap_1 : decode cX1_trap 1 = .ok (.aload_n 0, 1) := by decide +kernel
theorem dX1_trap_2 : decode cX1_trap 2 = .ok (.getfield 75, 3) := by decide +kernel
theorem dX1_trap_5 : decode cX1_trap 5 = .ok (.aload_n 0, 1) := by decide +kernel
theorem dX1_trap_6 : decode cX1_trap 6 = .ok (.getfield 75, 3) := by decide +kernel
theorem dX1_trap_9 : decode cX1_trap 9 = .ok (.iconst 0, 1) := by decide +kernel
theorem dX1_trap_10 : decode cX1_trap 10 = .ok (.iconst 1, 1) := by decide +kernel
theorem dX1_trap_11 : decode cX1_trap 11 = .ok (.invokestatic 46, 3) := by decide +kernel
theorem dX1_trap_14 : decode cX1_trap 14 = .ok (.isub, 1) := by decide +kernel
theorem dX1_trap_15 : decode cX1_trap 15 = .ok (.putfield 78, 3) := by decide +kernel
theorem dX1_trap_18 : decode cX1_trap 18 = .ok (.aload_n 0, 1) := by decide +kernel
theorem dX1_trap_19 : decode cX1_trap 19 = .ok (.iload_n 1, 1) := by decide +kernel
theorem dX1_trap_20 : decode cX1_trap 20 = .ok (.putfield 81, 3) := by decide +kernel
theorem dX1_trap_23 : decode cX1_trap 23 = .ok (.aload_n 0, 1) := by decide +kernel
theorem dX1_trap_24 : decode cX1_trap 24 = .ok (.iload_n 2, 1) := by decide +kernel
theorem dX1_trap_25 : decode cX1_trap 25 = .ok (.putfield 84, 3) := by decide +kernel
theorem dX1_trap_28 : decode cX1_trap 28 = .ok (.aload_n 0, 1) := by decide +kernel
theorem dX1_trap_29 : decode cX1_trap 29 = .ok (.aload_n 0, 1) := by decide +kernel
theorem dX1_trap_30 : decode cX1_trap 30 = .ok (.getfield 50, 3) := by decide +kernel
theorem dX1_trap_33 : decode cX1_trap 33 = .ok (.ldc 53, 2) := by decide +kernel
theorem dX1_trap_35 : decode cX1_trap 35 = .ok (.iand, 1) := by decide +kernel
theorem dX1_trap_36 : decode cX1_trap 36 = .ok (.aload_n 0, 1) := by decide +kernel
theorem dX1_trap_37 : decode cX1_trap 37 = .ok (.getfield 17, 3) := by decide +kernel
theorem dX1_trap_40 : decode cX1_trap 40 = .ok (.iconst 1, 1) := by decide +kernel
theorem dX1_trap_41 : decode cX1_trap 41 = .ok (.if_icmp .ne 9, 3) := by decide +kernel
theorem dX1_trap_44 : decode cX1_trap 44 = .ok (.sipush 256, 3) := by decide +kernel
theorem dX1_trap_47 : decode cX1_trap 47 = .ok (.goto 4, 3) := by decide +kernel
theorem dX1_trap_50 : decode cX1_trap 50 = .ok (.iconst 0, 1) := by decide +kernel
theorem dX1_trap_51 : decode cX1_trap 51 = .ok (.iadd, 1) := by decide +kernel
theorem dX1_trap_52 : decode cX1_trap 52 = .ok (.putfield 50, 3) := by decide +kernel
theorem dX1_trap_55 : decode cX1_trap 55 = .ok (.aload_n 0, 1) := by decide +kernel
theorem dX1_trap_56 : decode cX1_trap 56 = .ok (.iconst 1, 1) := by decide +kernel
theorem dX1_trap_57 : decode cX1_trap 57 = .ok (.putfield 17, 3) := by decide +kernel
theorem dX1_trap_60 : decode cX1_trap 60 = .ok (.aload_n 0, 1) := by decide +kernel
theorem dX1_trap_61 : decode cX1_trap 61 = .ok (.aload_n 0, 1) := by decide +kernel
theorem dX1_trap_62 : decode cX1_trap 62 = .ok (.getfield 87, 3) := by decide +kernel
theorem dX1_trap_65 : decode cX1_trap 65 = .ok (.putfield 75, 3) := by decide +kernel
theorem dX1_trap_68 : decode cX1_trap 68 = .ok (.aload_n 0, 1) := by decide +kernel
theorem dX1_trap_69 : decode cX1_trap 69 = .ok (.iconst 1, 1) := by decide +kernel
theorem dX1_trap_70 : decode cX1_trap 70 = .ok (.putfield 90, 3) := by decide +kernel
theorem dX1_trap_73 : decode cX1_trap 73 = .ok (.return_, 1) := by decide +kernel
theorem dX1_reach_0 : decode cX1_reach 0 = .ok (.iload_n 1, 1) := by decide +kernel
theorem dX1_reach_1 : decode cX1_reach 1 = .ok (.iconst 0, 1) := by decide +kernel
theorem dX1_reach_2 : decode cX1_reach 2 = .ok (.iconst 1, 1) := by decide +kernel
theorem dX1_reach_3 : decode cX1_reach 3 = .ok (.invokestatic 46, 3) := by decide +kernel
theorem dX1_reach_6 : decode cX1_reach 6 = .ok (.iload_n 2, 1) := by decide +kernel
theorem dX1_reach_7 : decode cX1_reach 7 = .ok (.irem, 1) := by decide +kernel
theorem dX1_reach_8 : decode cX1_reach 8 = .ok (.ifCond .eq 29, 3) := by decide +kernel
theorem dX1_reach_11 : decode cX1_reach 11 = .ok (.aload_n 0, 1) := by decide +kernel
theorem dX1_reach_12 : decode cX1_reach 12 = .ok (.iload_n 3, 1) := by decide +kernel
theorem dX1_reach_13 : decode cX1_reach 13 = .ok (.ifCond .ne 7, 3) := by decide +kernel
theorem dX1_reach_16 : decode cX1_reach 16 = .ok (.iconst 0, 1) := by decide +kernel
theorem dX1_reach_17 : decode cX1_reach 17 = .ok (.goto 14, 3) := by decide +kernel
theorem dX1_reach_20 : decode cX1_reach 20 = .ok (.iload_n 3, 1) := by decide +kernel
theorem dX1_reach_21 : decode cX1_reach 21 = .ok (.iconst 1, 1) := by decide +kernel
theorem dX1_reach_22 : decode cX1_reach 22 = .ok (.if_icmp .ne 7, 3) := by decide +kernel
theorem dX1_reach_25 : decode cX1_reach 25 = .ok (.iconst 4, 1) := by decide +kernel
theorem dX1_reach_26 : decode cX1_reach 26 = .ok (.goto 5, 3) := by decide +kernel
theorem dX1_reach_29 : decode cX1_reach 29 = .ok (.bipush 6, 2) := by decide +kernel
theorem dX1_reach_31 : decode cX1_reach 31 = .ok (.iload_n 1, 1) := by decide +kernel
theorem dX1_reach_32 : decode cX1_reach 32 = .ok (.invokevirtual 93, 3) := by decide +kernel
theorem dX1_reach_35 : decode cX1_reach 35 = .ok (.iconst 0, 1) := by decide +kernel
theorem dX1_reach_36 : decode cX1_reach 36 = .ok (.ireturn, 1) := by decide +kernel
theorem dX1_reach_37 : decode cX1_reach 37 = .ok (.aload_n 0, 1) := by decide +kernel
theorem dX1_reach_38 : decode cX1_reach 38 = .ok (.iload_n 1, 1) := by decide +kernel
theorem dX1_reach_39 : decode cX1_reach 39 = .ok (.iload_n 3, 1) := by decide +kernel
theorem dX1_reach_40 : decode cX1_reach 40 = .ok (.invokevirtual 97, 3) := by decide +kernel
theorem dX1_reach_43 : decode cX1_reach 43 = .ok (.istore 4, 2) := by decide +kernel
theorem dX1_reach_45 : decode cX1_reach 45 = .ok (.aload_n 0, 1) := by decide +kernel
theorem dX1_reach_46 : decode cX1_reach 46 = .ok (.getfield 54, 3) := by decide +kernel
theorem dX1_reach_49 : decode cX1_reach 49 = .ok (.ifCond .lt 12, 3) := by decide +kernel
theorem dX1_reach_52 : decode cX1_reach 52 = .ok (.aload_n 0, 1) := by decide +kernel
theorem dX1_reach_53 : decode cX1_reach 53 = .ok (.aload_n 0, 1) := by decide +kernel
theorem dX1_reach_54 : decode cX1_reach 54 = .ok (.getfield 54, 3) := by decide +kernel
theorem dX1_reach_57 : decode cX1_reach 57 = .ok (.iload_n 1, 1) := by decide +kernel
theorem dX1_reach_58 : decode cX1_reach 58 = .ok (.invokevirtual 93, 3) := by decide +kernel
theorem dX1_reach_61 : decode cX1_reach 61 = .ok (.iload 4, 2) := by decide +kernel
theorem dX1_reach_63 : decode cX1_reach 63 = .ok (.ireturn, 1) := by decide +kernel
theorem dX1_set_0 : decode cX1_set 0 = .ok (.aload_n 0, 1) := by decide +kernel
theorem dX1_set_1 : decode cX1_set 1 = .ok (.getfield 14, 3) := by decide +kernel
theorem dX1_set_4 : decode cX1_set 4 = .ok (.iload_n 1, 1) := by decide +kernel
theorem dX1_set_5 : decode cX1_set 5 = .ok (.iload_n 1, 1) := by decide +kernel
theorem dX1_set_6 : decode cX1_set 6 = .ok (.ifCond .ne 7, 3) := by decide +kernel
theorem dX1_set_9 : decode cX1_set 9 = .ok (.iconst 0, 1) := by decide +kernel
theorem dX1_set_10 : decode cX1_set 10 = .ok (.goto 4, 3) := by decide +kernel
theorem dX1_set_13 : decode cX1_set 13 = .ok (.iload_n 2, 1) := by decide +kernel
theorem dX1_set_14 : decode cX1_set 14 = .ok (.iastore, 1) := by decide +kernel
theorem dX1_set_15 : decode cX1_set 15 = .ok (.return_, 1) := by decide +kernel
theorem dX1_step_0 : decode cX1_step 0 = .ok (.aload_n 0, 1) := by decide +kernel
theorem dX1_step_1 : decode cX1_step 1 = .ok (.iconst 0, 1) := by decide +kernel
theorem dX1_step_2 : decode cX1_step 2 = .ok (.putfield 90, 3) := by decide +kernel
theorem dX1_step_5 : decode cX1_step 5 = .ok (.aload_n 0, 1) := by decide +kernel
theorem dX1_step_6 : decode cX1_step 6 = .ok (.getfield 17, 3) := by decide +kernel
theorem dX1_step_9 : decode cX1_step 9 = .ok (.ifCond .ne 7, 3) := by decide +kernel
theorem dX1_step_12 : decode cX1_step 12 = .ok (.iconst 1, 1) := by decide +kernel
theorem dX1_step_13 : decode cX1_step 13 = .ok (.goto 4, 3) := by decide +kernel
theorem dX1_step_16 : decode cX1_step 16 = .ok (.iconst 0, 1) := by decide +kernel
theorem dX1_step_17 : decode cX1_step 17 = .ok (.istore_n 1, 1) := by decide +kernel
theorem dX1_step_18 : decode cX1_step 18 = .ok (.iload_n 1, 1) := by decide +kernel
theorem dX1_step_19 : decode cX1_step 19 = .ok (.ifCond .eq 18, 3) := by decide +kernel
theorem dX1_step_22 : decode cX1_step 22 = .ok (.aload_n 0, 1) := by decide +kernel
theorem dX1_step_23 : decode cX1_step 23 = .ok (.getfield 24, 3) := by decide +kernel
theorem dX1_step_26 : decode cX1_step 26 = .ok (.ifCond .ne 11, 3) := by decide +kernel
theorem dX1_step_29 : decode cX1_step 29 = .ok (.aload_n 0, 1) := by decide +kernel
theorem dX1_step_30 : decode cX1_step 30 = .ok (.bipush 24, 2) := by decide +kernel
theorem dX1_step_32 : decode cX1_step 32 = .ok (.iconst 0, 1) := by decide +kernel
theorem dX1_step_33 : decode cX1_step 33 = .ok (.invokevirtual 93, 3) := by decide +kernel
theorem dX1_step_36 : decode cX1_step 36 = .ok (.return_, 1) := by decide +kernel
theorem dX1_step_37 : decode cX1_step 37 = .ok (.iload_n 1, 1) := by decide +kernel
theorem dX1_step_38 : decode cX1_step 38 = .ok (.ifCond .eq 18, 3) := by decide +kernel
theorem dX1_step_41 : decode cX1_step 41 = .ok (.aload_n 0, 1) := by decide +kernel
theorem dX1_step_42 : decode cX1_step 42 = .ok (.getfield 21, 3) := by decide +kernel
theorem dX1_step_45 : decode cX1_step 45 = .ok (.ifCond .ne 11, 3) := by decide +kernel
theorem dX1_step_48 : decode cX1_step 48 = .ok (.aload_n 0, 1) := by decide +kernel
theorem dX1_step_49 : decode cX1_step 49 = .ok (.ldc 101, 2) := by decide +kernel
theorem dX1_step_51 : decode cX1_step 51 = .ok (.iconst 0, 1) := by decide +kernel
theorem dX1_step_52 : decode cX1_step 52 = .ok (.invokevirtual 93, 3) := by decide +kernel
theorem dX1_step_55 : decode cX1_step 55 = .ok (.return_, 1) := by decide +kernel
theorem dX1_step_56 : decode cX1_step 56 = .ok (.aload_n 0, 1) := by decide +kernel
theorem dX1_step_57 : decode cX1_step 57 = .ok (.aload_n 0, 1) := by decide +kernel
theorem dX1_step_58 : decode cX1_step 58 = .ok (.getfield 75, 3) := by decide +kernel
theorem dX1_step_61 : decode cX1_step 61 = .ok (.iconst 4, 1) := by decide +kernel
theorem dX1_step_62 : decode cX1_step 62 = .ok (.iconst 0, 1) := by decide +kernel
theorem dX1_step_63 : decode cX1_step 63 = .ok (.invokevirtual 102, 3) := by decide +kernel
theorem dX1_step_66 : decode cX1_step 66 = .ok (.istore_n 2, 1) := by decide +kernel
theorem dX1_step_67 : decode cX1_step 67 = .ok (.aload_n 0, 1) := by decide +kernel
theorem dX1_step_68 : decode cX1_step 68 = .ok (.getfield 90, 3) := by decide +kernel
theorem dX1_step_71 : decode cX1_step 71 = .ok (.ifCond .eq 4, 3) := by decide +kernel
theorem dX1_step_74 : decode cX1_step 74 = .ok (.return_, 1) := by decide +kernel
theorem dX1_step_75 : decode cX1_step 75 = .ok (.aload_n 0, 1) := by decide +kernel
theorem dX1_step_76 : decode cX1_step 76 = .ok (.getfield 8, 3) := by decide +kernel
theorem dX1_step_79 : decode cX1_step 79 = .ok (.iload_n 2, 1) := by decide +kernel
theorem dX1_step_80 : decode cX1_step 80 = .ok (.iconst 4, 1) := by decide +kernel
theorem dX1_step_81 : decode cX1_step 81 = .ok (.idiv, 1) := by decide +kernel
theorem dX1_step_82 : decode cX1_step 82 = .ok (.iaload, 1) := by decide +kernel
theorem dX1_step_83 : decode cX1_step 83 = .ok (.istore_n 3, 1) := by decide +kernel
theorem dX1_step_84 : decode cX1_step 84 = .ok (.aload_n 0, 1) := by decide +kernel
theorem dX1_step_85 : decode cX1_step 85 = .ok (.aload_n 0, 1) := by decide +kernel
theorem dX1_step_86 : decode cX1_step 86 = .ok (.getfield 75, 3) := by decide +kernel
theorem dX1_step_89 : decode cX1_step 89 = .ok (.iconst 4, 1) := by decide +kernel
theorem dX1_step_90 : decode cX1_step 90 = .ok (.iadd, 1) := by decide +kernel
theorem dX1_step_91 : decode cX1_step 91 = .ok (.putfield 105, 3) := by decide +kernel
theorem dX1_step_94 : decode cX1_step 94 = .ok (.aload_n 0, 1) := by decide +kernel
theorem dX1_step_95 : decode cX1_step 95 = .ok (.iload_n 3, 1) := by decide +kernel
theorem dX1_step_96 : decode cX1_step 96 = .ok (.invokevirtual 108, 3) := by decide +kernel
theorem dX1_step_99 : decode cX1_step 99 = .ok (.aload_n 0, 1) := by decide +kernel
theorem dX1_step_100 : decode cX1_step 100 = .ok (.getfield 90, 3) := by decide +kernel
theorem dX1_step_103 : decode cX1_step 103 = .ok (.ifCond .ne 69, 3) := by decide +kernel
theorem dX1_step_106 : decode cX1_step 106 = .ok (.aload_n 0, 1) := by decide +kernel
theorem dX1_step_107 : decode cX1_step 107 = .ok (.aload_n 0, 1) := by decide +kernel
theorem dX1_step_108 : decode cX1_step 108 = .ok (.getfield 105, 3) := by decide +kernel
theorem dX1_step_111 : decode cX1_step 111 = .ok (.putfield 75, 3) := by decide +kernel
theorem dX1_step_114 : decode cX1_step 114 = .ok (.aload_n 0, 1) := by decide +kernel
theorem dX1_step_115 : decode cX1_step 115 = .ok (.iload_n 1, 1) := by decide +kernel
theorem dX1_step_116 : decode cX1_step 116 = .ok (.ifCond .eq 20, 3) := by decide +kernel
theorem dX1_step_119 : decode cX1_step 119 = .ok (.aload_n 0, 1) := by decide +kernel
theorem dX1_step_120 : decode cX1_step 120 = .ok (.getfield 24, 3) := by decide +kernel
theorem dX1_step_123 : decode cX1_step 123 = .ok (.iconst (-1), 1) := by decide +kernel
theorem dX1_step_124 : decode cX1_step 124 = .ok (.if_icmp .eq 12, 3) := by decide +kernel
theorem dX1_step_127 : decode cX1_step 127 = .ok (.aload_n 0, 1) := by decide +kernel
theorem dX1_step_128 : decode cX1_step 128 = .ok (.getfield 24, 3) := by decide +kernel
theorem dX1_step_131 : decode cX1_step 131 = .ok (.iconst 1, 1) := by decide +kernel
theorem dX1_step_132 : decode cX1_step 132 = .ok (.isub, 1) := by decide +kernel
theorem dX1_step_133 : decode cX1_step 133 = .ok (.goto 7, 3) := by decide +kernel
theorem dX1_step_136 : decode cX1_step 136 = .ok (.aload_n 0, 1) := by decide +kernel
theorem dX1_step_137 : decode cX1_step 137 = .ok (.getfield 24, 3) := by decide +kernel
theorem dX1_step_140 : decode cX1_step 140 = .ok (.putfield 24, 3) := by decide +kernel
theorem dX1_step_143 : decode cX1_step 143 = .ok (.aload_n 0, 1) := by decide +kernel
theorem dX1_step_144 : decode cX1_step 144 = .ok (.iload_n 1, 1) := by decide +kernel
theorem dX1_step_145 : decode cX1_step 145 = .ok (.ifCond .eq 20, 3) := by decide +kernel
theorem dX1_step_148 : decode cX1_step 148 = .ok (.aload_n 0, 1) := by decide +kernel
theorem dX1_step_149 : decode cX1_step 149 = .ok (.getfield 21, 3) := by decide +kernel
theorem dX1_step_152 : decode cX1_step 152 = .ok (.iconst (-1), 1) := by decide +kernel
theorem dX1_step_153 : decode cX1_step 153 = .ok (.if_icmp .eq 12, 3) := by decide +kernel
theorem dX1_step_156 : decode cX1_step 156 = .ok (.aload_n 0, 1) := by decide +kernel
theorem dX1_step_157 : decode cX1_step 157 = .ok (.getfield 21, 3) := by decide +kernel
theorem dX1_step_160 : decode cX1_step 160 = .ok (.iconst 1, 1) := by decide +kernel
theorem dX1_step_161 : decode cX1_step 161 = .ok (.isub, 1) := by decide +kernel
theorem dX1_step_162 : decode cX1_step 162 = .ok (.goto 7, 3) := by decide +kernel
theorem dX1_step_165 : decode cX1_step 165 = .ok (.aload_n 0, 1) := by decide +kernel
theorem dX1_step_166 : decode cX1_step 166 = .ok (.getfield 21, 3) := by decide +kernel
theorem dX1_step_169 : decode cX1_step 169 = .ok (.putfield 21, 3) := by decide +kernel
theorem dX1_step_172 : decode cX1_step 172 = .ok (.return_, 1) := by decide +kernel
theorem dX1_perform_0 : decode cX1_perform 0 = .ok (.iload_n 1, 1) := by decide +kernel
theorem dX1_perform_1 : decode cX1_perform 1 = .ok (.bipush 7, 2) := by decide +kernel
theorem dX1_perform_3 : decode cX1_perform 3 = .ok (.bipush 11, 2) := by decide +kernel
theorem dX1_perform_5 : decode cX1_perform 5 = .ok (.invokestatic 46, 3) := by decide +kernel
theorem dX1_perform_8 : decode cX1_perform 8 = .ok (.istore_n 2, 1) := by decide +kernel
theorem dX1_perform_9 : decode cX1_perform 9 = .ok (.iload_n 1, 1) := by decide +kernel
theorem dX1_perform_10 : decode cX1_perform 10 = .ok (.bipush 12, 2) := by decide +kernel
theorem dX1_perform_12 : decode cX1_perform 12 = .ok (.bipush 14, 2) := by decide +kernel
theorem dX1_perform_14 : decode cX1_perform 14 = .ok (.invokestatic 46, 3) := by decide +kernel
theorem dX1_perform_17 : decode cX1_perform 17 = .ok (.istore_n 3, 1) := by decide +kernel
theorem dX1_perform_18 : decode cX1_perform 18 = .ok (.aload_n 0, 1) := by decide +kernel
theorem dX1_perform_19 : decode cX1_perform 19 = .ok (.getfield 14, 3) := by decide +kernel
theorem dX1_perform_22 : decode cX1_perform 22 = .ok (.iload_n 1, 1) := by decide +kernel
theorem dX1_perform_23 : decode cX1_perform 23 = .ok (.bipush 15, 2) := by decide +kernel
theorem dX1_perform_25 : decode cX1_perform 25 = .ok (.bipush 19, 2) := by decide +kernel
theorem dX1_perform_27 : decode cX1_perform 27 = .ok (.invokestatic 46, 3) := by decide +kernel
theorem dX1_perform_30 : decode cX1_perform 30 = .ok (.iaload, 1) := by decide +kernel
theorem dX1_perform_31 : decode cX1_perform 31 = .ok (.istore 4, 2) := by decide +kernel
theorem dX1_perform_33 : decode cX1_perform 33 = .ok (.aload_n 0, 1) := by decide +kernel
theorem dX1_perform_34 : decode cX1_perform 34 = .ok (.getfield 14, 3) := by decide +kernel
theorem dX1_perform_37 : decode cX1_perform 37 = .ok (.iload_n 1, 1) := by decide +kernel
theorem dX1_perform_38 : decode cX1_perform 38 = .ok (.bipush 20, 2) := by decide +kernel
theorem dX1_perform_40 : decode cX1_perform 40 = .ok (.bipush 24, 2) := by decide +kernel
theorem dX1_perform_42 : decode cX1_perform 42 = .ok (.invokestatic 46, 3) := by decide +kernel
theorem dX1_perform_45 : decode cX1_perform 45 = .ok (.iaload, 1) := by decide +kernel
theorem dX1_perform_46 : decode cX1_perform 46 = .ok (.istore 5, 2) := by decide +kernel
theorem dX1_perform_48 : decode cX1_perform 48 = .ok (.iload_n 1, 1) := by decide +kernel
theorem dX1_perform_49 : decode cX1_perform 49 = .ok (.bipush 20, 2) := by decide +kernel
theorem dX1_perform_51 : decode cX1_perform 51 = .ok (.ishr, 1) := by decide +kernel
theorem dX1_perform_52 : decode cX1_perform 52 = .ok (.istore 6, 2) := by decide +kernel
theorem dX1_perform_54 : decode cX1_perform 54 = .ok (.iload_n 1, 1) := by decide +kernel
theorem dX1_perform_55 : decode cX1_perform 55 = .ok (.iconst 0, 1) := by decide +kernel
theorem dX1_perform_56 : decode cX1_perform 56 = .ok (.bipush 6, 2) := by decide +kernel
theorem dX1_perform_58 : decode cX1_perform 58 = .ok (.invokestatic 46, 3) := by decide +kernel
theorem dX1_perform_61 : decode cX1_perform 61 = .ok (.lookupswitch 297 #[(3, 206), (15, 272), (19, 244), (23, 116), (35, 221), (51, 258), (55, 99), (99, 193), (103, 155), (111, 138), (115, 285)], 99) := by decide +kernel
theorem dX1_perform_160 : decode cX1_perform 160 = .ok (.aload_n 0, 1) := by decide +kernel
theorem dX1_perform_161 : decode cX1_perform 161 = .ok (.iload_n 2, 1) := by decide +kernel
theorem dX1_perform_162 : decode cX1_perform 162 = .ok (.iload_n 1, 1) := by decide +kernel
theorem dX1_perform_163 : decode cX1_perform 163 = .ok (.iload_n 1, 1) := by decide +kernel
theorem dX1_perform_164 : decode cX1_perform 164 = .ok (.iconst 0, 1) := by decide +kernel
theorem dX1_perform_165 : decode cX1_perform 165 = .ok (.bipush 11, 2) := by decide +kernel
theorem dX1_perform_167 : decode cX1_perform 167 = .ok (.invokestatic 46, 3) := by decide +kernel
theorem dX1_perform_170 : decode cX1_perform 170 = .ok (.isub, 1) := by decide +kernel
theorem dX1_perform_171 : decode cX1_perform 171 = .ok (.invokevirtual 112, 3) := by decide +kernel
theorem dX1_perform_174 : decode cX1_perform 174 = .ok (.goto 190, 3) := by decide +kernel
theorem dX1_perform_177 : decode cX1_perform 177 = .ok (.aload_n 0, 1) := by decide +kernel
theorem dX1_perform_178 : decode cX1_perform 178 = .ok (.iload_n 2, 1) := by decide +kernel
theorem dX1_perform_179 : decode cX1_perform 179 = .ok (.aload_n 0, 1) := by decide +kernel
theorem dX1_perform_180 : decode cX1_perform 180 = .ok (.getfield 75, 3) := by decide +kernel
theorem dX1_perform_183 : decode cX1_perform 183 = .ok (.iload_n 1, 1) := by decide +kernel
theorem dX1_perform_184 : decode cX1_perform 184 = .ok (.iadd, 1) := by decide +kernel
theorem dX1_perform_185 : decode cX1_perform 185 = .ok (.iload_n 1, 1) := by decide +kernel
theorem dX1_perform_186 : decode cX1_perform 186 = .ok (.iconst 0, 1) := by decide +kernel
theorem dX1_perform_187 : decode cX1_perform 187 = .ok (.bipush 11, 2) := by decide +kernel
theorem dX1_perform_189 : decode cX1_perform 189 = .ok (.invokestatic 46, 3) := by decide +kernel
theorem dX1_perform_192 : decode cX1_perform 192 = .ok (.isub, 1) := by decide +kernel
theorem dX1_perform_193 : decode cX1_perform 193 = .ok (.invokevirtual 112, 3) := by decide +kernel
theorem dX1_perform_196 : decode cX1_perform 196 = .ok (.goto 168, 3) := by decide +kernel
theorem dX1_perform_199 : decode cX1_perform 199 = .ok (.aload_n 0, 1) := by decide +kernel
theorem dX1_perform_200 : decode cX1_perform 200 = .ok (.aload_n 0, 1) := by decide +kernel
theorem dX1_perform_201 : decode cX1_perform 201 = .ok (.getfield 75, 3) := by decide +kernel
theorem dX1_perform_204 : decode cX1_perform 204 = .ok (.iload_n 1, 1) := by decide +kernel
theorem dX1_perform_205 : decode cX1_perform 205 = .ok (.invokestatic 115, 3) := by decide +kernel
theorem dX1_perform_208 : decode cX1_perform 208 = .ok (.iadd, 1) := by decide +kernel
theorem dX1_perform_209 : decode cX1_perform 209 = .ok (.iload_n 2, 1) := by decide +kernel
theorem dX1_perform_210 : decode cX1_perform 210 = .ok (.invokevirtual 118, 3) := by decide +kernel
theorem dX1_perform_213 : decode cX1_perform 213 = .ok (.goto 151, 3) := by decide +kernel
theorem dX1_perform_216 : decode cX1_perform 216 = .ok (.iload_n 3, 1) := by decide +kernel
theorem dX1_perform_217 : decode cX1_perform 217 = .ok (.ifCond .ne 28, 3) := by decide +kernel
theorem dX1_perform_220 : decode cX1_perform 220 = .ok (.iload 4, 2) := by decide +kernel
theorem dX1_perform_222 : decode cX1_perform 222 = .ok (.iload 6, 2) := by decide +kernel
theorem dX1_perform_224 : decode cX1_perform 224 = .ok (.iadd, 1) := by decide +kernel
theorem dX1_perform_225 : decode cX1_perform 225 = .ok (.istore 7, 2) := by decide +kernel
theorem dX1_perform_227 : decode cX1_perform 227 = .ok (.aload_n 0, 1) := by decide +kernel
theorem dX1_perform_228 : decode cX1_perform 228 = .ok (.iload 7, 2) := by decide +kernel
theorem dX1_perform_230 : decode cX1_perform 230 = .ok (.iload 7, 2) := by decide +kernel
theorem dX1_perform_232 : decode cX1_perform 232 = .ok (.iconst 0, 1) := by decide +kernel
theorem dX1_perform_233 : decode cX1_perform 233 = .ok (.iconst 0, 1) := by decide +kernel
theorem dX1_perform_234 : decode cX1_perform 234 = .ok (.invokestatic 46, 3) := by decide +kernel
theorem dX1_perform_237 : decode cX1_perform 237 = .ok (.isub, 1) := by decide +kernel
theorem dX1_perform_238 : decode cX1_perform 238 = .ok (.iload_n 2, 1) := by decide +kernel
theorem dX1_perform_239 : decode cX1_perform 239 = .ok (.invokevirtual 118, 3) := by decide +kernel
theorem dX1_perform_242 : decode cX1_perform 242 = .ok (.goto 122, 3) := by decide +kernel
theorem dX1_perform_245 : decode cX1_perform 245 = .ok (.aload_n 0, 1) := by decide +kernel
theorem dX1_perform_246 : decode cX1_perform 246 = .ok (.iconst 2, 1) := by decide +kernel
theorem dX1_perform_247 : decode cX1_perform 247 = .ok (.iload_n 1, 1) := by decide +kernel
theorem dX1_perform_248 : decode cX1_perform 248 = .ok (.invokevirtual 93, 3) := by decide +kernel
theorem dX1_perform_251 : decode cX1_perform 251 = .ok (.goto 113, 3) := by decide +kernel
theorem dX1_perform_254 : decode cX1_perform 254 = .ok (.aload_n 0, 1) := by decide +kernel
theorem dX1_perform_255 : decode cX1_perform 255 = .ok (.iload_n 1, 1) := by decide +kernel
theorem dX1_perform_256 : decode cX1_perform 256 = .ok (.iload_n 3, 1) := by decide +kernel
theorem dX1_perform_257 : decode cX1_perform 257 = .ok (.iload 4, 2) := by decide +kernel
theorem dX1_perform_259 : decode cX1_perform 259 = .ok (.iload 5, 2) := by decide +kernel
theorem dX1_perform_261 : decode cX1_perform 261 = .ok (.invokevirtual 121, 3) := by decide +kernel
theorem dX1_perform_264 : decode cX1_perform 264 = .ok (.goto 100, 3) := by decide +kernel
theorem dX1_perform_267 : decode cX1_perform 267 = .ok (.aload_n 0, 1) := by decide +kernel
theorem dX1_perform_268 : decode cX1_perform 268 = .ok (.iload_n 1, 1) := by decide +kernel
theorem dX1_perform_269 : decode cX1_perform 269 = .ok (.iload_n 3, 1) := by decide +kernel
theorem dX1_perform_270 : decode cX1_perform 270 = .ok (.iload_n 2, 1) := by decide +kernel
