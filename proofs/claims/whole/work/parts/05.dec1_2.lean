theorem dX1_product_82 : decode cX1_product 82 = .ok (.lload 9, 2) := by decide +kernel
theorem dX1_product_84 : decode cX1_product 84 = .ok (.bipush 16, 2) := by decide +kernel
theorem dX1_product_86 : decode cX1_product 86 = .ok (.lshr, 1) := by decide +kernel
theorem dX1_product_87 : decode cX1_product 87 = .ok (.ladd, 1) := by decide +kernel
theorem dX1_product_88 : decode cX1_product 88 = .ok (.lload 11, 2) := by decide +kernel
theorem dX1_product_90 : decode cX1_product 90 = .ok (.bipush 16, 2) := by decide +kernel
theorem dX1_product_92 : decode cX1_product 92 = .ok (.lshr, 1) := by decide +kernel
theorem dX1_product_93 : decode cX1_product 93 = .ok (.ladd, 1) := by decide +kernel
theorem dX1_product_94 : decode cX1_product 94 = .ok (.l2i, 1) := by decide +kernel
theorem dX1_product_95 : decode cX1_product 95 = .ok (.istore 13, 2) := by decide +kernel
theorem dX1_product_97 : decode cX1_product 97 = .ok (.iload_n 0, 1) := by decide +kernel
theorem dX1_product_98 : decode cX1_product 98 = .ok (.iconst 3, 1) := by decide +kernel
theorem dX1_product_99 : decode cX1_product 99 = .ok (.if_icmp .ge 14, 3) := by decide +kernel
theorem dX1_product_102 : decode cX1_product 102 = .ok (.iload_n 1, 1) := by decide +kernel
theorem dX1_product_103 : decode cX1_product 103 = .ok (.ifCond .ge 10, 3) := by decide +kernel
theorem dX1_product_106 : decode cX1_product 106 = .ok (.iload 13, 2) := by decide +kernel
theorem dX1_product_108 : decode cX1_product 108 = .ok (.iload_n 2, 1) := by decide +kernel
theorem dX1_product_109 : decode cX1_product 109 = .ok (.isub, 1) := by decide +kernel
theorem dX1_product_110 : decode cX1_product 110 = .ok (.goto 5, 3) := by decide +kernel
theorem dX1_product_113 : decode cX1_product 113 = .ok (.iload 13, 2) := by decide +kernel
theorem dX1_product_115 : decode cX1_product 115 = .ok (.istore 13, 2) := by decide +kernel
theorem dX1_product_117 : decode cX1_product 117 = .ok (.iload_n 0, 1) := by decide +kernel
theorem dX1_product_118 : decode cX1_product 118 = .ok (.iconst 1, 1) := by decide +kernel
theorem dX1_product_119 : decode cX1_product 119 = .ok (.if_icmp .ne 14, 3) := by decide +kernel
theorem dX1_product_122 : decode cX1_product 122 = .ok (.iload_n 2, 1) := by decide +kernel
theorem dX1_product_123 : decode cX1_product 123 = .ok (.ifCond .ge 10, 3) := by decide +kernel
theorem dX1_product_126 : decode cX1_product 126 = .ok (.iload 13, 2) := by decide +kernel
theorem dX1_product_128 : decode cX1_product 128 = .ok (.iload_n 1, 1) := by decide +kernel
theorem dX1_product_129 : decode cX1_product 129 = .ok (.isub, 1) := by decide +kernel
theorem dX1_product_130 : decode cX1_product 130 = .ok (.goto 5, 3) := by decide +kernel
theorem dX1_product_133 : decode cX1_product 133 = .ok (.iload 13, 2) := by decide +kernel
theorem dX1_product_135 : decode cX1_product 135 = .ok (.ireturn, 1) := by decide +kernel
theorem dX1_quotient_0 : decode cX1_quotient 0 = .ok (.iload_n 0, 1) := by decide +kernel
theorem dX1_quotient_1 : decode cX1_quotient 1 = .ok (.iconst 2, 1) := by decide +kernel
theorem dX1_quotient_2 : decode cX1_quotient 2 = .ok (.irem, 1) := by decide +kernel
theorem dX1_quotient_3 : decode cX1_quotient 3 = .ok (.ifCond .ne 7, 3) := by decide +kernel
theorem dX1_quotient_6 : decode cX1_quotient 6 = .ok (.iconst 1, 1) := by decide +kernel
theorem dX1_quotient_7 : decode cX1_quotient 7 = .ok (.goto 4, 3) := by decide +kernel
theorem dX1_quotient_10 : decode cX1_quotient 10 = .ok (.iconst 0, 1) := by decide +kernel
theorem dX1_quotient_11 : decode cX1_quotient 11 = .ok (.istore_n 3, 1) := by decide +kernel
theorem dX1_quotient_12 : decode cX1_quotient 12 = .ok (.iload_n 3, 1) := by decide +kernel
theorem dX1_quotient_13 : decode cX1_quotient 13 = .ok (.ifCond .eq 8, 3) := by decide +kernel
theorem dX1_quotient_16 : decode cX1_quotient 16 = .ok (.iload_n 1, 1) := by decide +kernel
theorem dX1_quotient_17 : decode cX1_quotient 17 = .ok (.i2l, 1) := by decide +kernel
theorem dX1_quotient_18 : decode cX1_quotient 18 = .ok (.goto 7, 3) := by decide +kernel
theorem dX1_quotient_21 : decode cX1_quotient 21 = .ok (.iload_n 1, 1) := by decide +kernel
theorem dX1_quotient_22 : decode cX1_quotient 22 = .ok (.invokestatic 36, 3) := by decide +kernel
theorem dX1_quotient_25 : decode cX1_quotient 25 = .ok (.lstore 4, 2) := by decide +kernel
theorem dX1_quotient_27 : decode cX1_quotient 27 = .ok (.iload_n 3, 1) := by decide +kernel
theorem dX1_quotient_28 : decode cX1_quotient 28 = .ok (.ifCond .eq 8, 3) := by decide +kernel
theorem dX1_quotient_31 : decode cX1_quotient 31 = .ok (.iload_n 2, 1) := by decide +kernel
theorem dX1_quotient_32 : decode cX1_quotient 32 = .ok (.i2l, 1) := by decide +kernel
theorem dX1_quotient_33 : decode cX1_quotient 33 = .ok (.goto 7, 3) := by decide +kernel
theorem dX1_quotient_36 : decode cX1_quotient 36 = .ok (.iload_n 2, 1) := by decide +kernel
theorem dX1_quotient_37 : decode cX1_quotient 37 = .ok (.invokestatic 36, 3) := by decide +kernel
theorem dX1_quotient_40 : decode cX1_quotient 40 = .ok (.lstore 6, 2) := by decide +kernel
theorem dX1_quotient_42 : decode cX1_quotient 42 = .ok (.lload 6, 2) := by decide +kernel
theorem dX1_quotient_44 : decode cX1_quotient 44 = .ok (.lconst 0, 1) := by decide +kernel
theorem dX1_quotient_45 : decode cX1_quotient 45 = .ok (.lcmp, 1) := by decide +kernel
theorem dX1_quotient_46 : decode cX1_quotient 46 = .ok (.ifCond .ne 15, 3) := by decide +kernel
theorem dX1_quotient_49 : decode cX1_quotient 49 = .ok (.iload_n 0, 1) := by decide +kernel
theorem dX1_quotient_50 : decode cX1_quotient 50 = .ok (.bipush 6, 2) := by decide +kernel
theorem dX1_quotient_52 : decode cX1_quotient 52 = .ok (.if_icmp .ge 7, 3) := by decide +kernel
theorem dX1_quotient_55 : decode cX1_quotient 55 = .ok (.iconst (-1), 1) := by decide +kernel
theorem dX1_quotient_56 : decode cX1_quotient 56 = .ok (.goto 4, 3) := by decide +kernel
theorem dX1_quotient_59 : decode cX1_quotient 59 = .ok (.iload_n 1, 1) := by decide +kernel
theorem dX1_quotient_60 : decode cX1_quotient 60 = .ok (.ireturn, 1) := by decide +kernel
theorem dX1_quotient_61 : decode cX1_quotient 61 = .ok (.iload_n 0, 1) := by decide +kernel
theorem dX1_quotient_62 : decode cX1_quotient 62 = .ok (.bipush 6, 2) := by decide +kernel
theorem dX1_quotient_64 : decode cX1_quotient 64 = .ok (.if_icmp .ge 11, 3) := by decide +kernel
theorem dX1_quotient_67 : decode cX1_quotient 67 = .ok (.lload 4, 2) := by decide +kernel
theorem dX1_quotient_69 : decode cX1_quotient 69 = .ok (.lload 6, 2) := by decide +kernel
theorem dX1_quotient_71 : decode cX1_quotient 71 = .ok (.ldiv, 1) := by decide +kernel
theorem dX1_quotient_72 : decode cX1_quotient 72 = .ok (.goto 8, 3) := by decide +kernel
theorem dX1_quotient_75 : decode cX1_quotient 75 = .ok (.lload 4, 2) := by decide +kernel
theorem dX1_quotient_77 : decode cX1_quotient 77 = .ok (.lload 6, 2) := by decide +kernel
theorem dX1_quotient_79 : decode cX1_quotient 79 = .ok (.lrem, 1) := by decide +kernel
theorem dX1_quotient_80 : decode cX1_quotient 80 = .ok (.l2i, 1) := by decide +kernel
theorem dX1_quotient_81 : decode cX1_quotient 81 = .ok (.ireturn, 1) := by decide +kernel
theorem dX1_system_0 : decode cX1_system 0 = .ok (.iload_n 1, 1) := by decide +kernel
theorem dX1_system_1 : decode cX1_system 1 = .ok (.bipush 115, 2) := by decide +kernel
theorem dX1_system_3 : decode cX1_system 3 = .ok (.if_icmp .ne 28, 3) := by decide +kernel
theorem dX1_system_6 : decode cX1_system 6 = .ok (.aload_n 0, 1) := by decide +kernel
theorem dX1_system_7 : decode cX1_system 7 = .ok (.getfield 17, 3) := by decide +kernel
theorem dX1_system_10 : decode cX1_system 10 = .ok (.ifCond .ne 13, 3) := by decide +kernel
theorem dX1_system_13 : decode cX1_system 13 = .ok (.aload_n 0, 1) := by decide +kernel
theorem dX1_system_14 : decode cX1_system 14 = .ok (.bipush 8, 2) := by decide +kernel
theorem dX1_system_16 : decode cX1_system 16 = .ok (.iconst 0, 1) := by decide +kernel
theorem dX1_system_17 : decode cX1_system 17 = .ok (.invokevirtual 93, 3) := by decide +kernel
theorem dX1_system_20 : decode cX1_system 20 = .ok (.goto 150, 3) := by decide +kernel
theorem dX1_system_23 : decode cX1_system 23 = .ok (.aload_n 0, 1) := by decide +kernel
theorem dX1_system_24 : decode cX1_system 24 = .ok (.iconst 1, 1) := by decide +kernel
theorem dX1_system_25 : decode cX1_system 25 = .ok (.putfield 27, 3) := by decide +kernel
theorem dX1_system_28 : decode cX1_system 28 = .ok (.goto 142, 3) := by decide +kernel
theorem dX1_system_31 : decode cX1_system 31 = .ok (.iload_n 1, 1) := by decide +kernel
theorem dX1_system_32 : decode cX1_system 32 = .ok (.ldc 163, 2) := by decide +kernel
theorem dX1_system_34 : decode cX1_system 34 = .ok (.if_icmp .ne 15, 3) := by decide +kernel
theorem dX1_system_37 : decode cX1_system 37 = .ok (.aload_n 0, 1) := by decide +kernel
theorem dX1_system_38 : decode cX1_system 38 = .ok (.iconst 3, 1) := by decide +kernel
theorem dX1_system_39 : decode cX1_system 39 = .ok (.aload_n 0, 1) := by decide +kernel
theorem dX1_system_40 : decode cX1_system 40 = .ok (.getfield 75, 3) := by decide +kernel
theorem dX1_system_43 : decode cX1_system 43 = .ok (.invokevirtual 93, 3) := by decide +kernel
theorem dX1_system_46 : decode cX1_system 46 = .ok (.goto 124, 3) := by decide +kernel
theorem dX1_system_49 : decode cX1_system 49 = .ok (.aload_n 0, 1) := by decide +kernel
theorem dX1_system_50 : decode cX1_system 50 = .ok (.getfield 17, 3) := by decide +kernel
theorem dX1_system_53 : decode cX1_system 53 = .ok (.ifCond .ne 12, 3) := by decide +kernel
theorem dX1_system_56 : decode cX1_system 56 = .ok (.aload_n 0, 1) := by decide +kernel
theorem dX1_system_57 : decode cX1_system 57 = .ok (.iconst 2, 1) := by decide +kernel
theorem dX1_system_58 : decode cX1_system 58 = .ok (.iload_n 1, 1) := by decide +kernel
theorem dX1_system_59 : decode cX1_system 59 = .ok (.invokevirtual 93, 3) := by decide +kernel
theorem dX1_system_62 : decode cX1_system 62 = .ok (.goto 108, 3) := by decide +kernel
theorem dX1_system_65 : decode cX1_system 65 = .ok (.iload_n 1, 1) := by decide +kernel
theorem dX1_system_66 : decode cX1_system 66 = .ok (.ldc 164, 2) := by decide +kernel
theorem dX1_system_68 : decode cX1_system 68 = .ok (.if_icmp .ne 45, 3) := by decide +kernel
theorem dX1_system_71 : decode cX1_system 71 = .ok (.aload_n 0, 1) := by decide +kernel
theorem dX1_system_72 : decode cX1_system 72 = .ok (.aload_n 0, 1) := by decide +kernel
theorem dX1_system_73 : decode cX1_system 73 = .ok (.getfield 78, 3) := by decide +kernel
theorem dX1_system_76 : decode cX1_system 76 = .ok (.putfield 105, 3) := by decide +kernel
theorem dX1_system_79 : decode cX1_system 79 = .ok (.aload_n 0, 1) := by decide +kernel
theorem dX1_system_80 : decode cX1_system 80 = .ok (.aload_n 0, 1) := by decide +kernel
theorem dX1_system_81 : decode cX1_system 81 = .ok (.getfield 50, 3) := by decide +kernel
theorem dX1_system_84 : decode cX1_system 84 = .ok (.sipush 256, 3) := by decide +kernel
theorem dX1_system_87 : decode cX1_system 87 = .ok (.iand, 1) := by decide +kernel
theorem dX1_system_88 : decode cX1_system 88 = .ok (.ifCond .eq 7, 3) := by decide +kernel
theorem dX1_system_91 : decode cX1_system 91 = .ok (.iconst 1, 1) := by decide +kernel
theorem dX1_system_92 : decode cX1_system 92 = .ok (.goto 4, 3) := by decide +kernel
theorem dX1_system_95 : decode cX1_system 95 = .ok (.iconst 0, 1) := by decide +kernel
theorem dX1_system_96 : decode cX1_system 96 = .ok (.putfield 17, 3) := by decide +kernel
theorem dX1_system_99 : decode cX1_system 99 = .ok (.aload_n 0, 1) := by decide +kernel
theorem dX1_system_100 : decode cX1_system 100 = .ok (.aload_n 0, 1) := by decide +kernel
theorem dX1_system_101 : decode cX1_system 101 = .ok (.getfield 50, 3) := by decide +kernel
theorem dX1_system_104 : decode cX1_system 104 = .ok (.ldc 53, 2) := by decide +kernel
theorem dX1_system_106 : decode cX1_system 106 = .ok (.iand, 1) := by decide +kernel
theorem dX1_system_107 : decode cX1_system 107 = .ok (.putfield 50, 3) := by decide +kernel
theorem dX1_system_110 : decode cX1_system 110 = .ok (.goto 60, 3) := by decide +kernel
theorem dX1_system_113 : decode cX1_system 113 = .ok (.iload_n 2, 1) := by decide +kernel
theorem dX1_system_114 : decode cX1_system 114 = .ok (.ifCond .ne 47, 3) := by decide +kernel
theorem dX1_system_117 : decode cX1_system 117 = .ok (.iload_n 1, 1) := by decide +kernel
theorem dX1_system_118 : decode cX1_system 118 = .ok (.ldc 165, 2) := by decide +kernel
theorem dX1_system_120 : decode cX1_system 120 = .ok (.if_icmp .eq 20, 3) := by decide +kernel
theorem dX1_system_123 : decode cX1_system 123 = .ok (.iload_n 1, 1) := by decide +kernel
theorem dX1_system_124 : decode cX1_system 124 = .ok (.bipush 25, 2) := by decide +kernel
theorem dX1_system_126 : decode cX1_system 126 = .ok (.bipush 31, 2) := by decide +kernel
theorem dX1_system_128 : decode cX1_system 128 = .ok (.invokestatic 46, 3) := by decide +kernel
theorem dX1_system_131 : decode cX1_system 131 = .ok (.bipush 9, 2) := by decide +kernel
theorem dX1_system_133 : decode cX1_system 133 = .ok (.if_icmp .ne 11, 3) := by decide +kernel
theorem dX1_system_136 : decode cX1_system 136 = .ok (.iload_n 3, 1) := by decide +kernel
theorem dX1_system_137 : decode cX1_system 137 = .ok (.ifCond .ne 7, 3) := by decide +kernel
theorem dX1_system_140 : decode cX1_system 140 = .ok (.iconst 1, 1) := by decide +kernel
theorem dX1_system_141 : decode cX1_system 141 = .ok (.goto 4, 3) := by decide +kernel
theorem dX1_system_144 : decode cX1_system 144 = .ok (.iconst 0, 1) := by decide +kernel
theorem dX1_system_145 : decode cX1_system 145 = .ok (.istore 5, 2) := by decide +kernel
theorem dX1_system_147 : decode cX1_system 147 = .ok (.iload 5, 2) := by decide +kernel
theorem dX1_system_149 : decode cX1_system 149 = .ok (.ifCond .ne 9, 3) := by decide +kernel
theorem dX1_system_152 : decode cX1_system 152 = .ok (.aload_n 0, 1) := by decide +kernel
theorem dX1_system_153 : decode cX1_system 153 = .ok (.iconst 2, 1) := by decide +kernel
theorem dX1_system_154 : decode cX1_system 154 = .ok (.iload_n 1, 1) := by decide +kernel
theorem dX1_system_155 : decode cX1_system 155 = .ok (.invokevirtual 93, 3) := by decide +kernel
theorem dX1_system_158 : decode cX1_system 158 = .ok (.goto 12, 3) := by decide +kernel
theorem dX1_system_161 : decode cX1_system 161 = .ok (.aload_n 0, 1) := by decide +kernel
theorem dX1_system_162 : decode cX1_system 162 = .ok (.iload_n 1, 1) := by decide +kernel
theorem dX1_system_163 : decode cX1_system 163 = .ok (.iload_n 2, 1) := by decide +kernel
theorem dX1_system_164 : decode cX1_system 164 = .ok (.iload_n 3, 1) := by decide +kernel
theorem dX1_system_165 : decode cX1_system 165 = .ok (.iload 4, 2) := by decide +kernel
theorem dX1_system_167 : decode cX1_system 167 = .ok (.invokevirtual 166, 3) := by decide +kernel
theorem dX1_system_170 : decode cX1_system 170 = .ok (.return_, 1) := by decide +kernel
theorem dX1_exchange_0 : decode cX1_exchange 0 = .ok (.iload_n 1, 1) := by decide +kernel
theorem dX1_exchange_1 : decode cX1_exchange 1 = .ok (.bipush 20, 2) := by decide +kernel
theorem dX1_exchange_3 : decode cX1_exchange 3 = .ok (.bipush 31, 2) := by decide +kernel
theorem dX1_exchange_5 : decode cX1_exchange 5 = .ok (.invokestatic 46, 3) := by decide +kernel
theorem dX1_exchange_8 : decode cX1_exchange 8 = .ok (.istore 5, 2) := by decide +kernel
theorem dX1_exchange_10 : decode cX1_exchange 10 = .ok (.iload_n 2, 1) := by decide +kernel
theorem dX1_exchange_11 : decode cX1_exchange 11 = .ok (.iconst 4, 1) := by decide +kernel
theorem dX1_exchange_12 : decode cX1_exchange 12 = .ok (.if_icmp .eq 11, 3) := by decide +kernel
theorem dX1_exchange_15 : decode cX1_exchange 15 = .ok (.iload 5, 2) := by decide +kernel
theorem dX1_exchange_17 : decode cX1_exchange 17 = .ok (.invokestatic 169, 3) := by decide +kernel
theorem dX1_exchange_20 : decode cX1_exchange 20 = .ok (.ifCond .ne 10, 3) := by decide +kernel
theorem dX1_exchange_23 : decode cX1_exchange 23 = .ok (.aload_n 0, 1) := by decide +kernel
theorem dX1_exchange_24 : decode cX1_exchange 24 = .ok (.iconst 2, 1) := by decide +kernel
theorem dX1_exchange_25 : decode cX1_exchange 25 = .ok (.iload_n 1, 1) := by decide +kernel
theorem dX1_exchange_26 : decode cX1_exchange 26 = .ok (.invokevirtual 93, 3) := by decide +kernel
theorem dX1_exchange_29 : decode cX1_exchange 29 = .ok (.return_, 1) := by decide +kernel
theorem dX1_exchange_30 : decode cX1_exchange 30 = .ok (.iload_n 1, 1) := by decide +kernel
theorem dX1_exchange_31 : decode cX1_exchange 31 = .ok (.bipush 15, 2) := by decide +kernel
theorem dX1_exchange_33 : decode cX1_exchange 33 = .ok (.bipush 19, 2) := by decide +kernel
theorem dX1_exchange_35 : decode cX1_exchange 35 = .ok (.invokestatic 46, 3) := by decide +kernel
theorem dX1_exchange_38 : decode cX1_exchange 38 = .ok (.istore 6, 2) := by decide +kernel
theorem dX1_exchange_40 : decode cX1_exchange 40 = .ok (.iload_n 2, 1) := by decide +kernel
theorem dX1_exchange_41 : decode cX1_exchange 41 = .ok (.iconst 4, 1) := by decide +kernel
theorem dX1_exchange_42 : decode cX1_exchange 42 = .ok (.if_icmp .le 8, 3) := by decide +kernel
theorem dX1_exchange_45 : decode cX1_exchange 45 = .ok (.iload 6, 2) := by decide +kernel
theorem dX1_exchange_47 : decode cX1_exchange 47 = .ok (.goto 5, 3) := by decide +kernel
theorem dX1_exchange_50 : decode cX1_exchange 50 = .ok (.iload 4, 2) := by decide +kernel
theorem dX1_exchange_52 : decode cX1_exchange 52 = .ok (.istore 7, 2) := by decide +kernel
theorem dX1_exchange_54 : decode cX1_exchange 54 = .ok (.aload_n 0, 1) := by decide +kernel
theorem dX1_exchange_55 : decode cX1_exchange 55 = .ok (.iload 5, 2) := by decide +kernel
theorem dX1_exchange_57 : decode cX1_exchange 57 = .ok (.invokevirtual 172, 3) := by decide +kernel
theorem dX1_exchange_60 : decode cX1_exchange 60 = .ok (.istore 8, 2) := by decide +kernel
theorem dX1_exchange_62 : decode cX1_exchange 62 = .ok (.iload_n 2, 1) := by decide +kernel
theorem dX1_exchange_63 : decode cX1_exchange 63 = .ok (.iconst 4, 1) := by decide +kernel
theorem dX1_exchange_64 : decode cX1_exchange 64 = .ok (.irem, 1) := by decide +kernel
theorem dX1_exchange_65 : decode cX1_exchange 65 = .ok (.istore 9, 2) := by decide +kernel
theorem dX1_exchange_67 : decode cX1_exchange 67 = .ok (.iload 9, 2) := by decide +kernel
theorem dX1_exchange_69 : decode cX1_exchange 69 = .ok (.iconst 1, 1) := by decide +kernel
theorem dX1_exchange_70 : decode cX1_exchange 70 = .ok (.if_icmp .ne 14, 3) := by decide +kernel
theorem dX1_exchange_73 : decode cX1_exchange 73 = .ok (.aload_n 0, 1) := by decide +kernel
theorem dX1_exchange_74 : decode cX1_exchange 74 = .ok (.iload 5, 2) := by decide +kernel
theorem dX1_exchange_76 : decode cX1_exchange 76 = .ok (.iload 7, 2) := by decide +kernel
theorem dX1_exchange_78 : decode cX1_exchange 78 = .ok (.invokevirtual 175, 3) := by decide +kernel
theorem dX1_exchange_81 : decode cX1_exchange 81 = .ok (.goto 35, 3) := by decide +kernel
theorem dX1_exchange_84 : decode cX1_exchange 84 = .ok (.iload 6, 2) := by decide +kernel
theorem dX1_exchange_86 : decode cX1_exchange 86 = .ok (.ifCond .eq 30, 3) := by decide +kernel
theorem dX1_exchange_89 : decode cX1_exchange 89 = .ok (.aload_n 0, 1) := by decide +kernel
theorem dX1_exchange_90 : decode cX1_exchange 90 = .ok (.iload 5, 2) := by decide +kernel
theorem dX1_exchange_92 : decode cX1_exchange 92 = .ok (.iload 9, 2) := by decide +kernel
theorem dX1_exchange_94 : decode cX1_exchange 94 = .ok (.iconst 2, 1) := by decide +kernel
theorem dX1_exchange_95 : decode cX1_exchange 95 = .ok (.if_icmp .ne 11, 3) := by decide +kernel
theorem dX1_exchange_98 : decode cX1_exchange 98 = .ok (.iload 8, 2) := by decide +kernel
theorem dX1_exchange_100 : decode cX1_exchange 100 = .ok (.iload 7, 2) := by decide +kernel
theorem dX1_exchange_102 : decode cX1_exchange 102 = .ok (.ior, 1) := by decide +kernel
theorem dX1_exchange_103 : decode cX1_exchange 103 = .ok (.goto 10, 3) := by decide +kernel
theorem dX1_exchange_106 : decode cX1_exchange 106 = .ok (.iload 8, 2) := by decide +kernel
theorem dX1_exchange_108 : decode cX1_exchange 108 = .ok (.iload 7, 2) := by decide +kernel
theorem dX1_exchange_110 : decode cX1_exchange 110 = .ok (.iconst (-1), 1) := by decide +kernel
theorem dX1_exchange_111 : decode cX1_exchange 111 = .ok (.ixor, 1) := by decide +kernel
theorem dX1_exchange_112 : decode cX1_exchange 112 = .ok (.iand, 1) := by decide +kernel
theorem dX1_exchange_113 : decode cX1_exchange 113 = .ok (.invokevirtual 175, 3) := by decide +kernel
theorem dX1_exchange_116 : decode cX1_exchange 116 = .ok (.aload_n 0, 1) := by decide +kernel
theorem dX1_exchange_117 : decode cX1_exchange 117 = .ok (.iload_n 3, 1) := by decide +kernel
theorem dX1_exchange_118 : decode cX1_exchange 118 = .ok (.iload 8, 2) := by decide +kernel
theorem dX1_exchange_120 : decode cX1_exchange 120 = .ok (.invokevirtual 112, 3) := by decide +kernel
theorem dX1_exchange_123 : decode cX1_exchange 123 = .ok (.return_, 1) := by decide +kernel
theorem dX1_isControl_0 : decode cX1_isControl 0 = .ok (.iload_n 0, 1) := by decide +kernel
theorem dX1_isControl_1 : decode cX1_isControl 1 = .ok (.sipush 256, 3) := by decide +kernel
theorem dX1_isControl_4 : decode cX1_isControl 4 = .ok (.if_icmp .eq 45, 3) := by decide +kernel
theorem dX1_isControl_7 : decode cX1_isControl 7 = .ok (.iload_n 0, 1) := by decide +kernel
theorem dX1_isControl_8 : decode cX1_isControl 8 = .ok (.sipush 261, 3) := by decide +kernel
theorem dX1_isControl_11 : decode cX1_isControl 11 = .ok (.if_icmp .eq 38, 3) := by decide +kernel
theorem dX1_isControl_14 : decode cX1_isControl 14 = .ok (.iload_n 0, 1) := by decide +kernel
theorem dX1_isControl_15 : decode cX1_isControl 15 = .ok (.sipush 320, 3) := by decide +kernel
theorem dX1_isControl_18 : decode cX1_isControl 18 = .ok (.if_icmp .lt 10, 3) := by decide +kernel
theorem dX1_isControl_21 : decode cX1_isControl 21 = .ok (.iload_n 0, 1) := by decide +kernel
theorem dX1_isControl_22 : decode cX1_isControl 22 = .ok (.sipush 323, 3) := by decide +kernel
theorem dX1_isControl_25 : decode cX1_isControl 25 = .ok (.if_icmp .le 24, 3) := by decide +kernel
theorem dX1_isControl_28 : decode cX1_isControl 28 = .ok (.iload_n 0, 1) := by decide +kernel
theorem dX1_isControl_29 : decode cX1_isControl 29 = .ok (.sipush 384, 3) := by decide +kernel
theorem dX1_isControl_32 : decode cX1_isControl 32 = .ok (.if_icmp .eq 17, 3) := by decide +kernel
theorem dX1_isControl_35 : decode cX1_isControl 35 = .ok (.iload_n 0, 1) := by decide +kernel
theorem dX1_isControl_36 : decode cX1_isControl 36 = .ok (.sipush 1472, 3) := by decide +kernel
theorem dX1_isControl_39 : decode cX1_isControl 39 = .ok (.if_icmp .eq 10, 3) := by decide +kernel
theorem dX1_isControl_42 : decode cX1_isControl 42 = .ok (.iload_n 0, 1) := by decide +kernel
theorem dX1_isControl_43 : decode cX1_isControl 43 = .ok (.sipush 1473, 3) := by decide +kernel
theorem dX1_isControl_46 : decode cX1_isControl 46 = .ok (.if_icmp .ne 7, 3) := by decide +kernel
theorem dX1_isControl_49 : decode cX1_isControl 49 = .ok (.iconst 1, 1) := by decide +kernel
theorem dX1_isControl_50 : decode cX1_isControl 50 = .ok (.goto 4, 3) := by decide +kernel
theorem dX1_isControl_53 : decode cX1_isControl 53 = .ok (.iconst 0, 1) := by decide +kernel
theorem dX1_isControl_54 : decode cX1_isControl 54 = .ok (.ireturn, 1) := by decide +kernel
theorem dX1_controlOf_0 : decode cX1_controlOf 0 = .ok (.iload_n 1, 1) := by decide +kernel
theorem dX1_controlOf_1 : decode cX1_controlOf 1 = .ok (.lookupswitch 115 #[(256, 75), (261, 80), (320, 85), (321, 90), (322, 95), (323, 100), (384, 105), (1472, 110)], 75) := by decide +kernel
theorem dX1_controlOf_76 : decode cX1_controlOf 76 = .ok (.aload_n 0, 1) := by decide +kernel
theorem dX1_controlOf_77 : decode cX1_controlOf 77 = .ok (.getfield 50, 3) := by decide +kernel
theorem dX1_controlOf_80 : decode cX1_controlOf 80 = .ok (.ireturn, 1) := by decide +kernel
theorem dX1_controlOf_81 : decode cX1_controlOf 81 = .ok (.aload_n 0, 1) := by decide +kernel
theorem dX1_controlOf_82 : decode cX1_controlOf 82 = .ok (.getfield 87, 3) := by decide +kernel
theorem dX1_controlOf_85 : decode cX1_controlOf 85 = .ok (.ireturn, 1) := by decide +kernel
theorem dX1_controlOf_86 : decode cX1_controlOf 86 = .ok (.aload_n 0, 1) := by decide +kernel
theorem dX1_controlOf_87 : decode cX1_controlOf 87 = .ok (.getfield 178, 3) := by decide +kernel
theorem dX1_controlOf_90 : decode cX1_controlOf 90 = .ok (.ireturn, 1) := by decide +kernel
theorem dX1_controlOf_91 : decode cX1_controlOf 91 = .ok (.aload_n 0, 1) := by decide +kernel
theorem dX1_controlOf_92 : decode cX1_controlOf 92 = .ok (.getfield 78, 3) := by decide +kernel
theorem dX1_controlOf_95 : decode cX1_controlOf 95 = .ok (.ireturn, 1) := by decide +kernel
theorem dX1_controlOf_96 : decode cX1_controlOf 96 = .ok (.aload_n 0, 1) := by decide +kernel
theorem dX1_controlOf_97 : decode cX1_controlOf 97 = .ok (.getfield 81, 3) := by decide +kernel
theorem dX1_controlOf_100 : decode cX1_controlOf 100 = .ok (.ireturn, 1) := by decide +kernel
theorem dX1_controlOf_101 : decode cX1_controlOf 101 = .ok (.aload_n 0, 1) := by decide +kernel
theorem dX1_controlOf_102 : decode cX1_controlOf 102 = .ok (.getfield 84, 3) := by decide +kernel
theorem dX1_controlOf_105 : decode cX1_controlOf 105 = .ok (.ireturn, 1) := by decide +kernel
theorem dX1_controlOf_106 : decode cX1_controlOf 106 = .ok (.aload_n 0, 1) := by decide +kernel
theorem dX1_controlOf_107 : decode cX1_controlOf 107 = .ok (.getfield 57, 3) := by decide +kernel
theorem dX1_controlOf_110 : decode cX1_controlOf 110 = .ok (.ireturn, 1) := by decide +kernel
theorem dX1_controlOf_111 : decode cX1_controlOf 111 = .ok (.aload_n 0, 1) := by decide +kernel
theorem dX1_controlOf_112 : decode cX1_controlOf 112 = .ok (.getfield 21, 3) := by decide +kernel
theorem dX1_controlOf_115 : decode cX1_controlOf 115 = .ok (.ireturn, 1) := by decide +kernel
theorem dX1_controlOf_116 : decode cX1_controlOf 116 = .ok (.aload_n 0, 1) := by decide +kernel
theorem dX1_controlOf_117 : decode cX1_controlOf 117 = .ok (.getfield 24, 3) := by decide +kernel
theorem dX1_controlOf_120 : decode cX1_controlOf 120 = .ok (.ireturn, 1) := by decide +kernel
theorem dX1_putControl_0 : decode cX1_putControl 0 = .ok (.iload_n 1, 1) := by decide +kernel
theorem dX1_putControl_1 : decode cX1_putControl 1 = .ok (.lookupswitch 156 #[(256, 75), (261, 86), (320, 101), (321, 109), (322, 124), (323, 132), (384, 140), (1472, 148)], 75) := by decide +kernel
theorem dX1_putControl_76 : decode cX1_putControl 76 = .ok (.aload_n 0, 1) := by decide +kernel
theorem dX1_putControl_77 : decode cX1_putControl 77 = .ok (.iload_n 2, 1) := by decide +kernel
theorem dX1_putControl_78 : decode cX1_putControl 78 = .ok (.ldc 181, 2) := by decide +kernel
theorem dX1_putControl_80 : decode cX1_putControl 80 = .ok (.iand, 1) := by decide +kernel
theorem dX1_putControl_81 : decode cX1_putControl 81 = .ok (.putfield 50, 3) := by decide +kernel
theorem dX1_putControl_84 : decode cX1_putControl 84 = .ok (.goto 78, 3) := by decide +kernel
theorem dX1_putControl_87 : decode cX1_putControl 87 = .ok (.aload_n 0, 1) := by decide +kernel
theorem dX1_putControl_88 : decode cX1_putControl 88 = .ok (.iload_n 2, 1) := by decide +kernel
theorem dX1_putControl_89 : decode cX1_putControl 89 = .ok (.iload_n 2, 1) := by decide +kernel
theorem dX1_putControl_90 : decode cX1_putControl 90 = .ok (.iconst 0, 1) := by decide +kernel
theorem dX1_putControl_91 : decode cX1_putControl 91 = .ok (.iconst 1, 1) := by decide +kernel
theorem dX1_putControl_92 : decode cX1_putControl 92 = .ok (.invokestatic 46, 3) := by decide +kernel
theorem dX1_putControl_95 : decode cX1_putControl 95 = .ok (.isub, 1) := by decide +kernel
theorem dX1_putControl_96 : decode cX1_putControl 96 = .ok (.putfield 87, 3) := by decide +kernel
theorem dX1_putControl_99 : decode cX1_putControl 99 = .ok (.goto 63, 3) := by decide +kernel
theorem dX1_putControl_102 : decode cX1_putControl 102 = .ok (.aload_n 0, 1) := by decide +kernel
theorem dX1_putControl_103 : decode cX1_putControl 103 = .ok (.iload_n 2, 1) := by decide +kernel
theorem dX1_putControl_104 : decode cX1_putControl 104 = .ok (.putfield 178, 3) := by decide +kernel
theorem dX1_putControl_107 : decode cX1_putControl 107 = .ok (.goto 55, 3) := by decide +kernel
theorem dX1_putControl_110 : decode cX1_putControl 110 = .ok (.aload_n 0, 1) := by decide +kernel
theorem dX1_putControl_111 : decode cX1_putControl 111 = .ok (.iload_n 2, 1) := by decide +kernel
theorem dX1_putControl_112 : decode cX1_putControl 112 = .ok (.iload_n 2, 1) := by decide +kernel
theorem dX1_putControl_113 : decode cX1_putControl 113 = .ok (.iconst 0, 1) := by decide +kernel
theorem dX1_putControl_114 : decode cX1_putControl 114 = .ok (.iconst 1, 1) := by decide +kernel
theorem dX1_putControl_115 : decode cX1_putControl 115 = .ok (.invokestatic 46, 3) := by decide +kernel
theorem dX1_putControl_118 : decode cX1_putControl 118 = .ok (.isub, 1) := by decide +kernel
theorem dX1_putControl_119 : decode cX1_putControl 119 = .ok (.putfield 78, 3) := by decide +kernel
theorem dX1_putControl_122 : decode cX1_putControl 122 = .ok (.goto 40, 3) := by decide +kernel
theorem dX1_putControl_125 : decode cX1_putControl 125 = .ok (.aload_n 0, 1) := by decide +kernel
theorem dX1_putControl_126 : decode cX1_putControl 126 = .ok (.iload_n 2, 1) := by decide +kernel
theorem dX1_putControl_127 : decode cX1_putControl 127 = .ok (.putfield 81, 3) := by decide +kernel
theorem dX1_putControl_130 : decode cX1_putControl 130 = .ok (.goto 32, 3) := by decide +kernel
theorem dX1_putControl_133 : decode cX1_putControl 133 = .ok (.aload_n 0, 1) := by decide +kernel
theorem dX1_putControl_134 : decode cX1_putControl 134 = .ok (.iload_n 2, 1) := by decide +kernel
theorem dX1_putControl_135 : decode cX1_putControl 135 = .ok (.putfield 84, 3) := by decide +kernel
theorem dX1_putControl_138 : decode cX1_putControl 138 = .ok (.goto 24, 3) := by decide +kernel
theorem dX1_putControl_141 : decode cX1_putControl 141 = .ok (.aload_n 0, 1) := by decide +kernel
theorem dX1_putControl_142 : decode cX1_putControl 142 = .ok (.iload_n 2, 1) := by decide +kernel
theorem dX1_putControl_143 : decode cX1_putControl 143 = .ok (.putfield 57, 3) := by decide +kernel
theorem dX1_putControl_146 : decode cX1_putControl 146 = .ok (.goto 16, 3) := by decide +kernel
theorem dX1_putControl_149 : decode cX1_putControl 149 = .ok (.aload_n 0, 1) := by decide +kernel
theorem dX1_putControl_150 : decode cX1_putControl 150 = .ok (.iload_n 2, 1) := by decide +kernel
theorem dX1_putControl_151 : decode cX1_putControl 151 = .ok (.putfield 21, 3) := by decide +kernel
theorem dX1_putControl_154 : decode cX1_putControl 154 = .ok (.goto 8, 3) := by decide +kernel
theorem dX1_putControl_157 : decode cX1_putControl 157 = .ok (.aload_n 0, 1) := by decide +kernel
theorem dX1_putControl_158 : decode cX1_putControl 158 = .ok (.iload_n 2, 1) := by decide +kernel
theorem dX1_putControl_159 : decode cX1_putControl 159 = .ok (.putfield 24, 3) := by decide +kernel
theorem dX1_putControl_162 : decode cX1_putControl 162 = .ok (.return_, 1) := by decide +kernel
theorem dX1_run_0 : decode cX1_run 0 = .ok (.aload_n 0, 1) := by decide +kernel
theorem dX1_run_1 : decode cX1_run 1 = .ok (.iload_n 1, 1) := by decide +kernel
theorem dX1_run_2 : decode cX1_run 2 = .ok (.ifCond .lt 10, 3) := by decide +kernel
theorem dX1_run_5 : decode cX1_run 5 = .ok (.iload_n 1, 1) := by decide +kernel
theorem dX1_run_6 : decode cX1_run 6 = .ok (.sipush 20000, 3) := by decide +kernel
theorem dX1_run_9 : decode cX1_run 9 = .ok (.if_icmp .le 7, 3) := by decide +kernel
theorem dX1_run_12 : decode cX1_run 12 = .ok (.iconst 1, 1) := by decide +kernel
theorem dX1_run_13 : decode cX1_run 13 = .ok (.goto 4, 3) := by decide +kernel
theorem dX1_run_16 : decode cX1_run 16 = .ok (.iconst 0, 1) := by decide +kernel
theorem dX1_run_17 : decode cX1_run 17 = .ok (.putfield 31, 3) := by decide +kernel
theorem dX1_run_20 : decode cX1_run 20 = .ok (.aload_n 0, 1) := by decide +kernel
theorem dX1_run_21 : decode cX1_run 21 = .ok (.getfield 31, 3) := by decide +kernel
theorem dX1_run_24 : decode cX1_run 24 = .ok (.ifCond .gt 7, 3) := by decide +kernel
theorem dX1_run_27 : decode cX1_run 27 = .ok (.iload_n 1, 1) := by decide +kernel
theorem dX1_run_28 : decode cX1_run 28 = .ok (.ifCond .ne 5, 3) := by decide +kernel
theorem dX1_run_31 : decode cX1_run 31 = .ok (.iconst 0, 1) := by decide +kernel
theorem dX1_run_32 : decode cX1_run 32 = .ok (.ireturn, 1) := by decide +kernel
theorem dX1_run_33 : decode cX1_run 33 = .ok (.aload_n 0, 1) := by decide +kernel
theorem dX1_run_34 : decode cX1_run 34 = .ok (.iconst 0, 1) := by decide +kernel
theorem dX1_run_35 : decode cX1_run 35 = .ok (.putfield 27, 3) := by decide +kernel
theorem dX1_run_38 : decode cX1_run 38 = .ok (.iconst 0, 1) := by decide +kernel
theorem dX1_run_39 : decode cX1_run 39 = .ok (.istore_n 2, 1) := by decide +kernel
theorem dX1_run_40 : decode cX1_run 40 = .ok (.iload_n 2, 1) := by decide +kernel
theorem dX1_run_41 : decode cX1_run 41 = .ok (.iload_n 1, 1) := by decide +kernel
theorem dX1_run_42 : decode cX1_run 42 = .ok (.if_icmp .ge 20, 3) := by decide +kernel
theorem dX1_run_45 : decode cX1_run 45 = .ok (.aload_n 0, 1) := by decide +kernel
theorem dX1_run_46 : decode cX1_run 46 = .ok (.getfield 27, 3) := by decide +kernel
theorem dX1_run_49 : decode cX1_run 49 = .ok (.ifCond .ne 13, 3) := by decide +kernel
theorem dX1_run_52 : decode cX1_run 52 = .ok (.aload_n 0, 1) := by decide +kernel
theorem dX1_run_53 : decode cX1_run 53 = .ok (.invokevirtual 182, 3) := by decide +kernel
theorem dX1_run_56 : decode cX1_run 56 = .ok (.iinc 2 1, 3) := by decide +kernel
theorem dX1_run_59 : decode cX1_run 59 = .ok (.goto (-19), 3) := by decide +kernel
theorem dX1_run_62 : decode cX1_run 62 = .ok (.iload_n 2, 1) := by decide +kernel
theorem dX1_run_63 : decode cX1_run 63 = .ok (.ireturn, 1) := by decide +kernel
theorem dX1_called_0 : decode cX1_called 0 = .ok (.aload_n 0, 1) := by decide +kernel
theorem dX1_called_1 : decode cX1_called 1 = .ok (.iconst 0, 1) := by decide +kernel
theorem dX1_called_2 : decode cX1_called 2 = .ok (.putfield 31, 3) := by decide +kernel
theorem dX1_called_5 : decode cX1_called 5 = .ok (.aload_n 0, 1) := by decide +kernel
theorem dX1_called_6 : decode cX1_called 6 = .ok (.getfield 27, 3) := by decide +kernel
theorem dX1_called_9 : decode cX1_called 9 = .ok (.ireturn, 1) := by decide +kernel
theorem dX1_isPlace_0 : decode cX1_isPlace 0 = .ok (.iload_n 0, 1) := by decide +kernel
theorem dX1_isPlace_1 : decode cX1_isPlace 1 = .ok (.invokestatic 60, 3) := by decide +kernel
theorem dX1_isPlace_4 : decode cX1_isPlace 4 = .ok (.ifCond .eq 13, 3) := by decide +kernel
theorem dX1_isPlace_7 : decode cX1_isPlace 7 = .ok (.iload_n 0, 1) := by decide +kernel
theorem dX1_isPlace_8 : decode cX1_isPlace 8 = .ok (.iconst 4, 1) := by decide +kernel
theorem dX1_isPlace_9 : decode cX1_isPlace 9 = .ok (.irem, 1) := by decide +kernel
theorem dX1_isPlace_10 : decode cX1_isPlace 10 = .ok (.ifCond .ne 7, 3) := by decide +kernel
theorem dX1_isPlace_13 : decode cX1_isPlace 13 = .ok (.iconst 1, 1) := by decide +kernel
theorem dX1_isPlace_14 : decode cX1_isPlace 14 = .ok (.goto 4, 3) := by decide +kernel
theorem dX1_isPlace_17 : decode cX1_isPlace 17 = .ok (.iconst 0, 1) := by decide +kernel
theorem dX1_isPlace_18 : decode cX1_isPlace 18 = .ok (.ireturn, 1) := by decide +kernel
theorem dX1_peek_0 : decode cX1_peek 0 = .ok (.aload_n 0, 1) := by decide +kernel
theorem dX1_peek_1 : decode cX1_peek 1 = .ok (.iload_n 1, 1) := by decide +kernel
theorem dX1_peek_2 : decode cX1_peek 2 = .ok (.invokestatic 185, 3) := by decide +kernel
theorem dX1_peek_5 : decode cX1_peek 5 = .ok (.ifCond .eq 7, 3) := by decide +kernel
theorem dX1_peek_8 : decode cX1_peek 8 = .ok (.iconst 0, 1) := by decide +kernel
theorem dX1_peek_9 : decode cX1_peek 9 = .ok (.goto 4, 3) := by decide +kernel
theorem dX1_peek_12 : decode cX1_peek 12 = .ok (.iconst 1, 1) := by decide +kernel
theorem dX1_peek_13 : decode cX1_peek 13 = .ok (.putfield 31, 3) := by decide +kernel
theorem dX1_peek_16 : decode cX1_peek 16 = .ok (.aload_n 0, 1) := by decide +kernel
theorem dX1_peek_17 : decode cX1_peek 17 = .ok (.getfield 31, 3) := by decide +kernel
theorem dX1_peek_20 : decode cX1_peek 20 = .ok (.ifCond .le 7, 3) := by decide +kernel
theorem dX1_peek_23 : decode cX1_peek 23 = .ok (.iconst 0, 1) := by decide +kernel
theorem dX1_peek_24 : decode cX1_peek 24 = .ok (.goto 11, 3) := by decide +kernel
theorem dX1_peek_27 : decode cX1_peek 27 = .ok (.aload_n 0, 1) := by decide +kernel
theorem dX1_peek_28 : decode cX1_peek 28 = .ok (.getfield 8, 3) := by decide +kernel
theorem dX1_peek_31 : decode cX1_peek 31 = .ok (.iload_n 1, 1) := by decide +kernel
theorem dX1_peek_32 : decode cX1_peek 32 = .ok (.iconst 4, 1) := by decide +kernel
theorem dX1_peek_33 : decode cX1_peek 33 = .ok (.idiv, 1) := by decide +kernel
theorem dX1_peek_34 : decode cX1_peek 34 = .ok (.iaload, 1) := by decide +kernel
theorem dX1_peek_35 : decode cX1_peek 35 = .ok (.ireturn, 1) := by decide +kernel
theorem dX1_poke_0 : decode cX1_poke 0 = .ok (.aload_n 0, 1) := by decide +kernel
theorem dX1_poke_1 : decode cX1_poke 1 = .ok (.iload_n 1, 1) := by decide +kernel
theorem dX1_poke_2 : decode cX1_poke 2 = .ok (.invokestatic 185, 3) := by decide +kernel
theorem dX1_poke_5 : decode cX1_poke 5 = .ok (.ifCond .eq 7, 3) := by decide +kernel
theorem dX1_poke_8 : decode cX1_poke 8 = .ok (.iconst 0, 1) := by decide +kernel
theorem dX1_poke_9 : decode cX1_poke 9 = .ok (.goto 4, 3) := by decide +kernel
theorem dX1_poke_12 : decode cX1_poke 12 = .ok (.iconst 1, 1) := by decide +kernel
theorem dX1_poke_13 : decode cX1_poke 13 = .ok (.putfield 31, 3) := by decide +kernel
theorem dX1_poke_16 : decode cX1_poke 16 = .ok (.aload_n 0, 1) := by decide +kernel
theorem dX1_poke_17 : decode cX1_poke 17 = .ok (.getfield 31, 3) := by decide +kernel
theorem dX1_poke_20 : decode cX1_poke 20 = .ok (.ifCond .ne 12, 3) := by decide +kernel
theorem dX1_poke_23 : decode cX1_poke 23 = .ok (.aload_n 0, 1) := by decide +kernel
theorem dX1_poke_24 : decode cX1_poke 24 = .ok (.getfield 8, 3) := by decide +kernel
theorem dX1_poke_27 : decode cX1_poke 27 = .ok (.iload_n 1, 1) := by decide +kernel
theorem dX1_poke_28 : decode cX1_poke 28 = .ok (.iconst 4, 1) := by decide +kernel
theorem dX1_poke_29 : decode cX1_poke 29 = .ok (.idiv, 1) := by decide +kernel
theorem dX1_poke_30 : decode cX1_poke 30 = .ok (.iload_n 2, 1) := by decide +kernel
theorem dX1_poke_31 : decode cX1_poke 31 = .ok (.iastore, 1) := by decide +kernel
theorem dX1_poke_32 : decode cX1_poke 32 = .ok (.return_, 1) := by decide +kernel
theorem dX1_pokeFour_0 : decode cX1_pokeFour 0 = .ok (.aload_n 0, 1) := by decide +kernel
theorem dX1_pokeFour_1 : decode cX1_pokeFour 1 = .ok (.iload_n 1, 1) := by decide +kernel
theorem dX1_pokeFour_2 : decode cX1_pokeFour 2 = .ok (.invokestatic 185, 3) := by decide +kernel
theorem dX1_pokeFour_5 : decode cX1_pokeFour 5 = .ok (.ifCond .eq 13, 3) := by decide +kernel
theorem dX1_pokeFour_8 : decode cX1_pokeFour 8 = .ok (.iload_n 1, 1) := by decide +kernel
theorem dX1_pokeFour_9 : decode cX1_pokeFour 9 = .ok (.ldc 188, 2) := by decide +kernel
theorem dX1_pokeFour_11 : decode cX1_pokeFour 11 = .ok (.if_icmp .gt 7, 3) := by decide +kernel
theorem dX1_pokeFour_14 : decode cX1_pokeFour 14 = .ok (.iconst 0, 1) := by decide +kernel
theorem dX1_pokeFour_15 : decode cX1_pokeFour 15 = .ok (.goto 4, 3) := by decide +kernel
theorem dX1_pokeFour_18 : decode cX1_pokeFour 18 = .ok (.iconst 1, 1) := by decide +kernel
theorem dX1_pokeFour_19 : decode cX1_pokeFour 19 = .ok (.putfield 31, 3) := by decide +kernel
theorem dX1_pokeFour_22 : decode cX1_pokeFour 22 = .ok (.aload_n 0, 1) := by decide +kernel
theorem dX1_pokeFour_23 : decode cX1_pokeFour 23 = .ok (.getfield 31, 3) := by decide +kernel
theorem dX1_pokeFour_26 : decode cX1_pokeFour 26 = .ok (.ifCond .ne 47, 3) := by decide +kernel
theorem dX1_pokeFour_29 : decode cX1_pokeFour 29 = .ok (.aload_n 0, 1) := by decide +kernel
theorem dX1_pokeFour_30 : decode cX1_pokeFour 30 = .ok (.getfield 8, 3) := by decide +kernel
theorem dX1_pokeFour_33 : decode cX1_pokeFour 33 = .ok (.iload_n 1, 1) := by decide +kernel
theorem dX1_pokeFour_34 : decode cX1_pokeFour 34 = .ok (.iconst 4, 1) := by decide +kernel
theorem dX1_pokeFour_35 : decode cX1_pokeFour 35 = .ok (.idiv, 1) := by decide +kernel
theorem dX1_pokeFour_36 : decode cX1_pokeFour 36 = .ok (.iload_n 2, 1) := by decide +kernel
theorem dX1_pokeFour_37 : decode cX1_pokeFour 37 = .ok (.iastore, 1) := by decide +kernel
theorem dX1_pokeFour_38 : decode cX1_pokeFour 38 = .ok (.aload_n 0, 1) := by decide +kernel
theorem dX1_pokeFour_39 : decode cX1_pokeFour 39 = .ok (.getfield 8, 3) := by decide +kernel
theorem dX1_pokeFour_42 : decode cX1_pokeFour 42 = .ok (.iload_n 1, 1) := by decide +kernel
theorem dX1_pokeFour_43 : decode cX1_pokeFour 43 = .ok (.iconst 4, 1) := by decide +kernel
theorem dX1_pokeFour_44 : decode cX1_pokeFour 44 = .ok (.idiv, 1) := by decide +kernel
theorem dX1_pokeFour_45 : decode cX1_pokeFour 45 = .ok (.iconst 1, 1) := by decide +kernel
theorem dX1_pokeFour_46 : decode cX1_pokeFour 46 = .ok (.iadd, 1) := by decide +kernel
theorem dX1_pokeFour_47 : decode cX1_pokeFour 47 = .ok (.iload_n 3, 1) := by decide +kernel
theorem dX1_pokeFour_48 : decode cX1_pokeFour 48 = .ok (.iastore, 1) := by decide +kernel
theorem dX1_pokeFour_49 : decode cX1_pokeFour 49 = .ok (.aload_n 0, 1) := by decide +kernel
theorem dX1_pokeFour_50 : decode cX1_pokeFour 50 = .ok (.getfield 8, 3) := by decide +kernel
theorem dX1_pokeFour_53 : decode cX1_pokeFour 53 = .ok (.iload_n 1, 1) := by decide +kernel
theorem dX1_pokeFour_54 : decode cX1_pokeFour 54 = .ok (.iconst 4, 1) := by decide +kernel
theorem dX1_pokeFour_55 : decode cX1_pokeFour 55 = .ok (.idiv, 1) := by decide +kernel
theorem dX1_pokeFour_56 : decode cX1_pokeFour 56 = .ok (.iconst 2, 1) := by decide +kernel
theorem dX1_pokeFour_57 : decode cX1_pokeFour 57 = .ok (.iadd, 1) := by decide +kernel
theorem dX1_pokeFour_58 : decode cX1_pokeFour 58 = .ok (.iload 4, 2) := by decide +kernel
theorem dX1_pokeFour_60 : decode cX1_pokeFour 60 = .ok (.iastore, 1) := by decide +kernel
theorem dX1_pokeFour_61 : decode cX1_pokeFour 61 = .ok (.aload_n 0, 1) := by decide +kernel
theorem dX1_pokeFour_62 : decode cX1_pokeFour 62 = .ok (.getfield 8, 3) := by decide +kernel
theorem dX1_pokeFour_65 : decode cX1_pokeFour 65 = .ok (.iload_n 1, 1) := by decide +kernel
theorem dX1_pokeFour_66 : decode cX1_pokeFour 66 = .ok (.iconst 4, 1) := by decide +kernel
theorem dX1_pokeFour_67 : decode cX1_pokeFour 67 = .ok (.idiv, 1) := by decide +kernel
theorem dX1_pokeFour_68 : decode cX1_pokeFour 68 = .ok (.iconst 3, 1) := by decide +kernel
theorem dX1_pokeFour_69 : decode cX1_pokeFour 69 = .ok (.iadd, 1) := by decide +kernel
theorem dX1_pokeFour_70 : decode cX1_pokeFour 70 = .ok (.iload 5, 2) := by decide +kernel
theorem dX1_pokeFour_72 : decode cX1_pokeFour 72 = .ok (.iastore, 1) := by decide +kernel
theorem dX1_pokeFour_73 : decode cX1_pokeFour 73 = .ok (.return_, 1) := by decide +kernel
theorem dX1_register_0 : decode cX1_register 0 = .ok (.aload_n 0, 1) := by decide +kernel
theorem dX1_register_1 : decode cX1_register 1 = .ok (.iload_n 1, 1) := by decide +kernel
theorem dX1_register_2 : decode cX1_register 2 = .ok (.ifCond .lt 9, 3) := by decide +kernel
theorem dX1_register_5 : decode cX1_register 5 = .ok (.iload_n 1, 1) := by decide +kernel
theorem dX1_register_6 : decode cX1_register 6 = .ok (.bipush 33, 2) := by decide +kernel
theorem dX1_register_8 : decode cX1_register 8 = .ok (.if_icmp .le 7, 3) := by decide +kernel
theorem dX1_register_11 : decode cX1_register 11 = .ok (.iconst 1, 1) := by decide +kernel
theorem dX1_register_12 : decode cX1_register 12 = .ok (.goto 4, 3) := by decide +kernel
theorem dX1_register_15 : decode cX1_register 15 = .ok (.iconst 0, 1) := by decide +kernel
theorem dX1_register_16 : decode cX1_register 16 = .ok (.putfield 31, 3) := by decide +kernel
theorem dX1_register_19 : decode cX1_register 19 = .ok (.aload_n 0, 1) := by decide +kernel
theorem dX1_register_20 : decode cX1_register 20 = .ok (.getfield 31, 3) := by decide +kernel
theorem dX1_register_23 : decode cX1_register 23 = .ok (.ifCond .le 7, 3) := by decide +kernel
theorem dX1_register_26 : decode cX1_register 26 = .ok (.iconst 0, 1) := by decide +kernel
theorem dX1_register_27 : decode cX1_register 27 = .ok (.goto 35, 3) := by decide +kernel
theorem dX1_register_30 : decode cX1_register 30 = .ok (.iload_n 1, 1) := by decide +kernel
theorem dX1_register_31 : decode cX1_register 31 = .ok (.bipush 32, 2) := by decide +kernel
theorem dX1_register_33 : decode cX1_register 33 = .ok (.if_icmp .ne 10, 3) := by decide +kernel
theorem dX1_register_36 : decode cX1_register 36 = .ok (.aload_n 0, 1) := by decide +kernel
theorem dX1_register_37 : decode cX1_register 37 = .ok (.getfield 75, 3) := by decide +kernel
theorem dX1_register_40 : decode cX1_register 40 = .ok (.goto 22, 3) := by decide +kernel
theorem dX1_register_43 : decode cX1_register 43 = .ok (.iload_n 1, 1) := by decide +kernel
theorem dX1_register_44 : decode cX1_register 44 = .ok (.bipush 33, 2) := by decide +kernel
theorem dX1_register_46 : decode cX1_register 46 = .ok (.if_icmp .ne 10, 3) := by decide +kernel
theorem dX1_register_49 : decode cX1_register 49 = .ok (.aload_n 0, 1) := by decide +kernel
theorem dX1_register_50 : decode cX1_register 50 = .ok (.getfield 17, 3) := by decide +kernel
theorem dX1_register_53 : decode cX1_register 53 = .ok (.goto 9, 3) := by decide +kernel
theorem dX1_register_56 : decode cX1_register 56 = .ok (.aload_n 0, 1) := by decide +kernel
theorem dX1_register_57 : decode cX1_register 57 = .ok (.getfield 14, 3) := by decide +kernel
theorem dX1_register_60 : decode cX1_register 60 = .ok (.iload_n 1, 1) := by decide +kernel
theorem dX1_register_61 : decode cX1_register 61 = .ok (.iaload, 1) := by decide +kernel
theorem dX1_register_62 : decode cX1_register 62 = .ok (.ireturn, 1) := by decide +kernel
theorem dX1_setRegister_0 : decode cX1_setRegister 0 = .ok (.aload_n 0, 1) := by decide +kernel
theorem dX1_setRegister_1 : decode cX1_setRegister 1 = .ok (.iload_n 1, 1) := by decide +kernel
theorem dX1_setRegister_2 : decode cX1_setRegister 2 = .ok (.ifCond .lt 9, 3) := by decide +kernel
theorem dX1_setRegister_5 : decode cX1_setRegister 5 = .ok (.iload_n 1, 1) := by decide +kernel
theorem dX1_setRegister_6 : decode cX1_setRegister 6 = .ok (.bipush 33, 2) := by decide +kernel
theorem dX1_setRegister_8 : decode cX1_setRegister 8 = .ok (.if_icmp .le 7, 3) := by decide +kernel
theorem dX1_setRegister_11 : decode cX1_setRegister 11 = .ok (.iconst 1, 1) := by decide +kernel
theorem dX1_setRegister_12 : decode cX1_setRegister 12 = .ok (.goto 4, 3) := by decide +kernel
theorem dX1_setRegister_15 : decode cX1_setRegister 15 = .ok (.iconst 0, 1) := by decide +kernel
theorem dX1_setRegister_16 : decode cX1_setRegister 16 = .ok (.putfield 31, 3) := by decide +kernel
theorem dX1_setRegister_19 : decode cX1_setRegister 19 = .ok (.aload_n 0, 1) := by decide +kernel
theorem dX1_setRegister_20 : decode cX1_setRegister 20 = .ok (.getfield 31, 3) := by decide +kernel
theorem dX1_setRegister_23 : decode cX1_setRegister 23 = .ok (.ifCond .le 4, 3) := by decide +kernel
theorem dX1_setRegister_26 : decode cX1_setRegister 26 = .ok (.return_, 1) := by decide +kernel
theorem dX1_setRegister_27 : decode cX1_setRegister 27 = .ok (.iload_n 1, 1) := by decide +kernel
theorem dX1_setRegister_28 : decode cX1_setRegister 28 = .ok (.bipush 32, 2) := by decide +kernel
theorem dX1_setRegister_30 : decode cX1_setRegister 30 = .ok (.if_icmp .ne 11, 3) := by decide +kernel
theorem dX1_setRegister_33 : decode cX1_setRegister 33 = .ok (.aload_n 0, 1) := by decide +kernel
theorem dX1_setRegister_34 : decode cX1_setRegister 34 = .ok (.iload_n 2, 1) := by decide +kernel
theorem dX1_setRegister_35 : decode cX1_setRegister 35 = .ok (.putfield 75, 3) := by decide +kernel
theorem dX1_setRegister_38 : decode cX1_setRegister 38 = .ok (.goto 28, 3) := by decide +kernel
theorem dX1_setRegister_41 : decode cX1_setRegister 41 = .ok (.iload_n 1, 1) := by decide +kernel
theorem dX1_setRegister_42 : decode cX1_setRegister 42 = .ok (.bipush 33, 2) := by decide +kernel
theorem dX1_setRegister_44 : decode cX1_setRegister 44 = .ok (.if_icmp .ne 16, 3) := by decide +kernel
theorem dX1_setRegister_47 : decode cX1_setRegister 47 = .ok (.aload_n 0, 1) := by decide +kernel
theorem dX1_setRegister_48 : decode cX1_setRegister 48 = .ok (.iload_n 2, 1) := by decide +kernel
theorem dX1_setRegister_49 : decode cX1_setRegister 49 = .ok (.iconst 0, 1) := by decide +kernel
theorem dX1_setRegister_50 : decode cX1_setRegister 50 = .ok (.iconst 0, 1) := by decide +kernel
theorem dX1_setRegister_51 : decode cX1_setRegister 51 = .ok (.invokestatic 46, 3) := by decide +kernel
theorem dX1_setRegister_54 : decode cX1_setRegister 54 = .ok (.putfield 17, 3) := by decide +kernel
theorem dX1_setRegister_57 : decode cX1_setRegister 57 = .ok (.goto 9, 3) := by decide +kernel
theorem dX1_setRegister_60 : decode cX1_setRegister 60 = .ok (.aload_n 0, 1) := by decide +kernel
theorem dX1_setRegister_61 : decode cX1_setRegister 61 = .ok (.iload_n 1, 1) := by decide +kernel
theorem dX1_setRegister_62 : decode cX1_setRegister 62 = .ok (.iload_n 2, 1) := by decide +kernel
theorem dX1_setRegister_63 : decode cX1_setRegister 63 = .ok (.invokevirtual 112, 3) := by decide +kernel
theorem dX1_setRegister_66 : decode cX1_setRegister 66 = .ok (.return_, 1) := by decide +kernel
theorem dX1_control_0 : decode cX1_control 0 = .ok (.aload_n 0, 1) := by decide +kernel
theorem dX1_control_1 : decode cX1_control 1 = .ok (.iload_n 1, 1) := by decide +kernel
theorem dX1_control_2 : decode cX1_control 2 = .ok (.invokestatic 169, 3) := by decide +kernel
theorem dX1_control_5 : decode cX1_control 5 = .ok (.ifCond .eq 7, 3) := by decide +kernel
theorem dX1_control_8 : decode cX1_control 8 = .ok (.iconst 0, 1) := by decide +kernel
theorem dX1_control_9 : decode cX1_control 9 = .ok (.goto 4, 3) := by decide +kernel
theorem dX1_control_12 : decode cX1_control 12 = .ok (.iconst 1, 1) := by decide +kernel
theorem dX1_control_13 : decode cX1_control 13 = .ok (.putfield 31, 3) := by decide +kernel
theorem dX1_control_16 : decode cX1_control 16 = .ok (.aload_n 0, 1) := by decide +kernel
theorem dX1_control_17 : decode cX1_control 17 = .ok (.getfield 31, 3) := by decide +kernel
theorem dX1_control_20 : decode cX1_control 20 = .ok (.ifCond .le 7, 3) := by decide +kernel
theorem dX1_control_23 : decode cX1_control 23 = .ok (.iconst 0, 1) := by decide +kernel
theorem dX1_control_24 : decode cX1_control 24 = .ok (.goto 8, 3) := by decide +kernel
theorem dX1_control_27 : decode cX1_control 27 = .ok (.aload_n 0, 1) := by decide +kernel
theorem dX1_control_28 : decode cX1_control 28 = .ok (.iload_n 1, 1) := by decide +kernel
theorem dX1_control_29 : decode cX1_control 29 = .ok (.invokevirtual 172, 3) := by decide +kernel
theorem dX1_control_32 : decode cX1_control 32 = .ok (.ireturn, 1) := by decide +kernel
theorem dX1_setControl_0 : decode cX1_setControl 0 = .ok (.aload_n 0, 1) := by decide +kernel
theorem dX1_setControl_1 : decode cX1_setControl 1 = .ok (.iload_n 1, 1) := by decide +kernel
theorem dX1_setControl_2 : decode cX1_setControl 2 = .ok (.invokestatic 169, 3) := by decide +kernel
theorem dX1_setControl_5 : decode cX1_setControl 5 = .ok (.ifCond .eq 7, 3) := by decide +kernel
theorem dX1_setControl_8 : decode cX1_setControl 8 = .ok (.iconst 0, 1) := by decide +kernel
theorem dX1_setControl_9 : decode cX1_setControl 9 = .ok (.goto 4, 3) := by decide +kernel
theorem dX1_setControl_12 : decode cX1_setControl 12 = .ok (.iconst 1, 1) := by decide +kernel
theorem dX1_setControl_13 : decode cX1_setControl 13 = .ok (.putfield 31, 3) := by decide +kernel
theorem dX1_setControl_16 : decode cX1_setControl 16 = .ok (.aload_n 0, 1) := by decide +kernel
theorem dX1_setControl_17 : decode cX1_setControl 17 = .ok (.getfield 31, 3) := by decide +kernel
theorem dX1_setControl_20 : decode cX1_setControl 20 = .ok (.ifCond .ne 9, 3) := by decide +kernel
theorem dX1_setControl_23 : decode cX1_setControl 23 = .ok (.aload_n 0, 1) := by decide +kernel
theorem dX1_setControl_24 : decode cX1_setControl 24 = .ok (.iload_n 1, 1) := by decide +kernel
theorem dX1_setControl_25 : decode cX1_setControl 25 = .ok (.iload_n 2, 1) := by decide +kernel
theorem dX1_setControl_26 : decode cX1_setControl 26 = .ok (.invokevirtual 175, 3) := by decide +kernel
theorem dX1_setControl_29 : decode cX1_setControl 29 = .ok (.return_, 1) := by decide +kernel
theorem dX1_translate_0 : decode cX1_translate 0 = .ok (.aload_n 0, 1) := by decide +kernel
theorem dX1_translate_1 : decode cX1_translate 1 = .ok (.iload_n 2, 1) := by decide +kernel
theorem dX1_translate_2 : decode cX1_translate 2 = .ok (.ifCond .lt 8, 3) := by decide +kernel
theorem dX1_translate_5 : decode cX1_translate 5 = .ok (.iload_n 2, 1) := by decide +kernel
theorem dX1_translate_6 : decode cX1_translate 6 = .ok (.iconst 2, 1) := by decide +kernel
theorem dX1_translate_7 : decode cX1_translate 7 = .ok (.if_icmp .le 7, 3) := by decide +kernel
theorem dX1_translate_10 : decode cX1_translate 10 = .ok (.iconst 1, 1) := by decide +kernel
theorem dX1_translate_11 : decode cX1_translate 11 = .ok (.goto 4, 3) := by decide +kernel
theorem dX1_translate_14 : decode cX1_translate 14 = .ok (.iconst 0, 1) := by decide +kernel
theorem dX1_translate_15 : decode cX1_translate 15 = .ok (.putfield 31, 3) := by decide +kernel
theorem dX1_translate_18 : decode cX1_translate 18 = .ok (.aload_n 0, 1) := by decide +kernel
theorem dX1_translate_19 : decode cX1_translate 19 = .ok (.getfield 31, 3) := by decide +kernel
theorem dX1_translate_22 : decode cX1_translate 22 = .ok (.ifCond .le 5, 3) := by decide +kernel
theorem dX1_translate_25 : decode cX1_translate 25 = .ok (.iconst 0, 1) := by decide +kernel
theorem dX1_translate_26 : decode cX1_translate 26 = .ok (.ireturn, 1) := by decide +kernel
theorem dX1_translate_27 : decode cX1_translate 27 = .ok (.aload_n 0, 1) := by decide +kernel
theorem dX1_translate_28 : decode cX1_translate 28 = .ok (.iload_n 1, 1) := by decide +kernel
theorem dX1_translate_29 : decode cX1_translate 29 = .ok (.iload_n 2, 1) := by decide +kernel
theorem dX1_translate_30 : decode cX1_translate 30 = .ok (.invokevirtual 97, 3) := by decide +kernel
theorem dX1_translate_33 : decode cX1_translate 33 = .ok (.istore_n 3, 1) := by decide +kernel
theorem dX1_translate_34 : decode cX1_translate 34 = .ok (.aload_n 0, 1) := by decide +kernel
theorem dX1_translate_35 : decode cX1_translate 35 = .ok (.getfield 54, 3) := by decide +kernel
theorem dX1_translate_38 : decode cX1_translate 38 = .ok (.ifCond .lt 12, 3) := by decide +kernel
theorem dX1_translate_41 : decode cX1_translate 41 = .ok (.iconst (-1), 1) := by decide +kernel
