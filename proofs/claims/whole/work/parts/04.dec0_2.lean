theorem dX0_calculateWithRegister_0 : decode cX0_calculateWithRegister 0 = .ok (.iload_n 1, 1) := by decide +kernel
theorem dX0_calculateWithRegister_1 : decode cX0_calculateWithRegister 1 = .ok (.invokestatic 131, 3) := by decide +kernel
theorem dX0_calculateWithRegister_4 : decode cX0_calculateWithRegister 4 = .ok (.istore_n 2, 1) := by decide +kernel
theorem dX0_calculateWithRegister_5 : decode cX0_calculateWithRegister 5 = .ok (.iload_n 1, 1) := by decide +kernel
theorem dX0_calculateWithRegister_6 : decode cX0_calculateWithRegister 6 = .ok (.invokestatic 186, 3) := by decide +kernel
theorem dX0_calculateWithRegister_9 : decode cX0_calculateWithRegister 9 = .ok (.istore_n 3, 1) := by decide +kernel
theorem dX0_calculateWithRegister_10 : decode cX0_calculateWithRegister 10 = .ok (.aload_n 0, 1) := by decide +kernel
theorem dX0_calculateWithRegister_11 : decode cX0_calculateWithRegister 11 = .ok (.iload_n 1, 1) := by decide +kernel
theorem dX0_calculateWithRegister_12 : decode cX0_calculateWithRegister 12 = .ok (.invokevirtual 134, 3) := by decide +kernel
theorem dX0_calculateWithRegister_15 : decode cX0_calculateWithRegister 15 = .ok (.istore 4, 2) := by decide +kernel
theorem dX0_calculateWithRegister_17 : decode cX0_calculateWithRegister 17 = .ok (.aload_n 0, 1) := by decide +kernel
theorem dX0_calculateWithRegister_18 : decode cX0_calculateWithRegister 18 = .ok (.iload_n 1, 1) := by decide +kernel
theorem dX0_calculateWithRegister_19 : decode cX0_calculateWithRegister 19 = .ok (.invokevirtual 161, 3) := by decide +kernel
theorem dX0_calculateWithRegister_22 : decode cX0_calculateWithRegister 22 = .ok (.istore 5, 2) := by decide +kernel
theorem dX0_calculateWithRegister_24 : decode cX0_calculateWithRegister 24 = .ok (.iload_n 3, 1) := by decide +kernel
theorem dX0_calculateWithRegister_25 : decode cX0_calculateWithRegister 25 = .ok (.ifCond .ne 17, 3) := by decide +kernel
theorem dX0_calculateWithRegister_28 : decode cX0_calculateWithRegister 28 = .ok (.aload_n 0, 1) := by decide +kernel
theorem dX0_calculateWithRegister_29 : decode cX0_calculateWithRegister 29 = .ok (.iload_n 1, 1) := by decide +kernel
theorem dX0_calculateWithRegister_30 : decode cX0_calculateWithRegister 30 = .ok (.iload_n 2, 1) := by decide +kernel
theorem dX0_calculateWithRegister_31 : decode cX0_calculateWithRegister 31 = .ok (.iload 4, 2) := by decide +kernel
theorem dX0_calculateWithRegister_33 : decode cX0_calculateWithRegister 33 = .ok (.iload 5, 2) := by decide +kernel
theorem dX0_calculateWithRegister_35 : decode cX0_calculateWithRegister 35 = .ok (.invokestatic 189, 3) := by decide +kernel
theorem dX0_calculateWithRegister_38 : decode cX0_calculateWithRegister 38 = .ok (.invokevirtual 122, 3) := by decide +kernel
theorem dX0_calculateWithRegister_41 : decode cX0_calculateWithRegister 41 = .ok (.ireturn, 1) := by decide +kernel
theorem dX0_calculateWithRegister_42 : decode cX0_calculateWithRegister 42 = .ok (.iload_n 3, 1) := by decide +kernel
theorem dX0_calculateWithRegister_43 : decode cX0_calculateWithRegister 43 = .ok (.iconst 1, 1) := by decide +kernel
theorem dX0_calculateWithRegister_44 : decode cX0_calculateWithRegister 44 = .ok (.if_icmp .ne 33, 3) := by decide +kernel
theorem dX0_calculateWithRegister_47 : decode cX0_calculateWithRegister 47 = .ok (.aload_n 0, 1) := by decide +kernel
theorem dX0_calculateWithRegister_48 : decode cX0_calculateWithRegister 48 = .ok (.iload_n 1, 1) := by decide +kernel
theorem dX0_calculateWithRegister_49 : decode cX0_calculateWithRegister 49 = .ok (.iload_n 2, 1) := by decide +kernel
theorem dX0_calculateWithRegister_50 : decode cX0_calculateWithRegister 50 = .ok (.iconst 4, 1) := by decide +kernel
theorem dX0_calculateWithRegister_51 : decode cX0_calculateWithRegister 51 = .ok (.if_icmp .ge 14, 3) := by decide +kernel
theorem dX0_calculateWithRegister_54 : decode cX0_calculateWithRegister 54 = .ok (.iload_n 2, 1) := by decide +kernel
theorem dX0_calculateWithRegister_55 : decode cX0_calculateWithRegister 55 = .ok (.iload 4, 2) := by decide +kernel
theorem dX0_calculateWithRegister_57 : decode cX0_calculateWithRegister 57 = .ok (.iload 5, 2) := by decide +kernel
theorem dX0_calculateWithRegister_59 : decode cX0_calculateWithRegister 59 = .ok (.invokestatic 192, 3) := by decide +kernel
theorem dX0_calculateWithRegister_62 : decode cX0_calculateWithRegister 62 = .ok (.goto 11, 3) := by decide +kernel
theorem dX0_calculateWithRegister_65 : decode cX0_calculateWithRegister 65 = .ok (.iload_n 2, 1) := by decide +kernel
theorem dX0_calculateWithRegister_66 : decode cX0_calculateWithRegister 66 = .ok (.iload 4, 2) := by decide +kernel
theorem dX0_calculateWithRegister_68 : decode cX0_calculateWithRegister 68 = .ok (.iload 5, 2) := by decide +kernel
theorem dX0_calculateWithRegister_70 : decode cX0_calculateWithRegister 70 = .ok (.invokestatic 195, 3) := by decide +kernel
theorem dX0_calculateWithRegister_73 : decode cX0_calculateWithRegister 73 = .ok (.invokevirtual 122, 3) := by decide +kernel
theorem dX0_calculateWithRegister_76 : decode cX0_calculateWithRegister 76 = .ok (.ireturn, 1) := by decide +kernel
theorem dX0_calculateWithRegister_77 : decode cX0_calculateWithRegister 77 = .ok (.iload_n 3, 1) := by decide +kernel
theorem dX0_calculateWithRegister_78 : decode cX0_calculateWithRegister 78 = .ok (.bipush 32, 2) := by decide +kernel
theorem dX0_calculateWithRegister_80 : decode cX0_calculateWithRegister 80 = .ok (.if_icmp .ne 18, 3) := by decide +kernel
theorem dX0_calculateWithRegister_83 : decode cX0_calculateWithRegister 83 = .ok (.iload_n 2, 1) := by decide +kernel
theorem dX0_calculateWithRegister_84 : decode cX0_calculateWithRegister 84 = .ok (.ifCond .ne 14, 3) := by decide +kernel
theorem dX0_calculateWithRegister_87 : decode cX0_calculateWithRegister 87 = .ok (.aload_n 0, 1) := by decide +kernel
theorem dX0_calculateWithRegister_88 : decode cX0_calculateWithRegister 88 = .ok (.iload_n 1, 1) := by decide +kernel
theorem dX0_calculateWithRegister_89 : decode cX0_calculateWithRegister 89 = .ok (.iload 4, 2) := by decide +kernel
theorem dX0_calculateWithRegister_91 : decode cX0_calculateWithRegister 91 = .ok (.iload 5, 2) := by decide +kernel
theorem dX0_calculateWithRegister_93 : decode cX0_calculateWithRegister 93 = .ok (.isub, 1) := by decide +kernel
theorem dX0_calculateWithRegister_94 : decode cX0_calculateWithRegister 94 = .ok (.invokevirtual 122, 3) := by decide +kernel
theorem dX0_calculateWithRegister_97 : decode cX0_calculateWithRegister 97 = .ok (.ireturn, 1) := by decide +kernel
theorem dX0_calculateWithRegister_98 : decode cX0_calculateWithRegister 98 = .ok (.iload_n 3, 1) := by decide +kernel
theorem dX0_calculateWithRegister_99 : decode cX0_calculateWithRegister 99 = .ok (.bipush 32, 2) := by decide +kernel
theorem dX0_calculateWithRegister_101 : decode cX0_calculateWithRegister 101 = .ok (.if_icmp .ne 22, 3) := by decide +kernel
theorem dX0_calculateWithRegister_104 : decode cX0_calculateWithRegister 104 = .ok (.iload_n 2, 1) := by decide +kernel
theorem dX0_calculateWithRegister_105 : decode cX0_calculateWithRegister 105 = .ok (.iconst 5, 1) := by decide +kernel
theorem dX0_calculateWithRegister_106 : decode cX0_calculateWithRegister 106 = .ok (.if_icmp .ne 17, 3) := by decide +kernel
theorem dX0_calculateWithRegister_109 : decode cX0_calculateWithRegister 109 = .ok (.aload_n 0, 1) := by decide +kernel
theorem dX0_calculateWithRegister_110 : decode cX0_calculateWithRegister 110 = .ok (.iload_n 1, 1) := by decide +kernel
theorem dX0_calculateWithRegister_111 : decode cX0_calculateWithRegister 111 = .ok (.iload 4, 2) := by decide +kernel
theorem dX0_calculateWithRegister_113 : decode cX0_calculateWithRegister 113 = .ok (.iload 5, 2) := by decide +kernel
theorem dX0_calculateWithRegister_115 : decode cX0_calculateWithRegister 115 = .ok (.bipush 31, 2) := by decide +kernel
theorem dX0_calculateWithRegister_117 : decode cX0_calculateWithRegister 117 = .ok (.iand, 1) := by decide +kernel
theorem dX0_calculateWithRegister_118 : decode cX0_calculateWithRegister 118 = .ok (.ishr, 1) := by decide +kernel
theorem dX0_calculateWithRegister_119 : decode cX0_calculateWithRegister 119 = .ok (.invokevirtual 122, 3) := by decide +kernel
theorem dX0_calculateWithRegister_122 : decode cX0_calculateWithRegister 122 = .ok (.ireturn, 1) := by decide +kernel
theorem dX0_calculateWithRegister_123 : decode cX0_calculateWithRegister 123 = .ok (.aload_n 0, 1) := by decide +kernel
theorem dX0_calculateWithRegister_124 : decode cX0_calculateWithRegister 124 = .ok (.iload_n 1, 1) := by decide +kernel
theorem dX0_calculateWithRegister_125 : decode cX0_calculateWithRegister 125 = .ok (.invokevirtual 140, 3) := by decide +kernel
theorem dX0_calculateWithRegister_128 : decode cX0_calculateWithRegister 128 = .ok (.ireturn, 1) := by decide +kernel
theorem dX0_calculate_0 : decode cX0_calculate 0 = .ok (.iload_n 0, 1) := by decide +kernel
theorem dX0_calculate_1 : decode cX0_calculate 1 = .ok (.tableswitch 94 0 6 #[43, 47, 54, 65, 79, 83, 90], 43) := by decide +kernel
theorem dX0_calculate_44 : decode cX0_calculate 44 = .ok (.iload_n 1, 1) := by decide +kernel
theorem dX0_calculate_45 : decode cX0_calculate 45 = .ok (.iload_n 2, 1) := by decide +kernel
theorem dX0_calculate_46 : decode cX0_calculate 46 = .ok (.iadd, 1) := by decide +kernel
theorem dX0_calculate_47 : decode cX0_calculate 47 = .ok (.ireturn, 1) := by decide +kernel
theorem dX0_calculate_48 : decode cX0_calculate 48 = .ok (.iload_n 1, 1) := by decide +kernel
theorem dX0_calculate_49 : decode cX0_calculate 49 = .ok (.iload_n 2, 1) := by decide +kernel
theorem dX0_calculate_50 : decode cX0_calculate 50 = .ok (.bipush 31, 2) := by decide +kernel
theorem dX0_calculate_52 : decode cX0_calculate 52 = .ok (.iand, 1) := by decide +kernel
theorem dX0_calculate_53 : decode cX0_calculate 53 = .ok (.ishl, 1) := by decide +kernel
theorem dX0_calculate_54 : decode cX0_calculate 54 = .ok (.ireturn, 1) := by decide +kernel
theorem dX0_calculate_55 : decode cX0_calculate 55 = .ok (.iload_n 1, 1) := by decide +kernel
theorem dX0_calculate_56 : decode cX0_calculate 56 = .ok (.iload_n 2, 1) := by decide +kernel
theorem dX0_calculate_57 : decode cX0_calculate 57 = .ok (.if_icmp .ge 7, 3) := by decide +kernel
theorem dX0_calculate_60 : decode cX0_calculate 60 = .ok (.iconst 1, 1) := by decide +kernel
theorem dX0_calculate_61 : decode cX0_calculate 61 = .ok (.goto 4, 3) := by decide +kernel
theorem dX0_calculate_64 : decode cX0_calculate 64 = .ok (.iconst 0, 1) := by decide +kernel
theorem dX0_calculate_65 : decode cX0_calculate 65 = .ok (.ireturn, 1) := by decide +kernel
theorem dX0_calculate_66 : decode cX0_calculate 66 = .ok (.iload_n 1, 1) := by decide +kernel
theorem dX0_calculate_67 : decode cX0_calculate 67 = .ok (.iload_n 2, 1) := by decide +kernel
theorem dX0_calculate_68 : decode cX0_calculate 68 = .ok (.invokestatic 171, 3) := by decide +kernel
theorem dX0_calculate_71 : decode cX0_calculate 71 = .ok (.ifCond .eq 7, 3) := by decide +kernel
theorem dX0_calculate_74 : decode cX0_calculate 74 = .ok (.iconst 1, 1) := by decide +kernel
theorem dX0_calculate_75 : decode cX0_calculate 75 = .ok (.goto 4, 3) := by decide +kernel
theorem dX0_calculate_78 : decode cX0_calculate 78 = .ok (.iconst 0, 1) := by decide +kernel
theorem dX0_calculate_79 : decode cX0_calculate 79 = .ok (.ireturn, 1) := by decide +kernel
theorem dX0_calculate_80 : decode cX0_calculate 80 = .ok (.iload_n 1, 1) := by decide +kernel
theorem dX0_calculate_81 : decode cX0_calculate 81 = .ok (.iload_n 2, 1) := by decide +kernel
theorem dX0_calculate_82 : decode cX0_calculate 82 = .ok (.ixor, 1) := by decide +kernel
theorem dX0_calculate_83 : decode cX0_calculate 83 = .ok (.ireturn, 1) := by decide +kernel
theorem dX0_calculate_84 : decode cX0_calculate 84 = .ok (.iload_n 1, 1) := by decide +kernel
theorem dX0_calculate_85 : decode cX0_calculate 85 = .ok (.iload_n 2, 1) := by decide +kernel
theorem dX0_calculate_86 : decode cX0_calculate 86 = .ok (.bipush 31, 2) := by decide +kernel
theorem dX0_calculate_88 : decode cX0_calculate 88 = .ok (.iand, 1) := by decide +kernel
theorem dX0_calculate_89 : decode cX0_calculate 89 = .ok (.iushr, 1) := by decide +kernel
theorem dX0_calculate_90 : decode cX0_calculate 90 = .ok (.ireturn, 1) := by decide +kernel
theorem dX0_calculate_91 : decode cX0_calculate 91 = .ok (.iload_n 1, 1) := by decide +kernel
theorem dX0_calculate_92 : decode cX0_calculate 92 = .ok (.iload_n 2, 1) := by decide +kernel
theorem dX0_calculate_93 : decode cX0_calculate 93 = .ok (.ior, 1) := by decide +kernel
theorem dX0_calculate_94 : decode cX0_calculate 94 = .ok (.ireturn, 1) := by decide +kernel
theorem dX0_calculate_95 : decode cX0_calculate 95 = .ok (.iload_n 1, 1) := by decide +kernel
theorem dX0_calculate_96 : decode cX0_calculate 96 = .ok (.iload_n 2, 1) := by decide +kernel
theorem dX0_calculate_97 : decode cX0_calculate 97 = .ok (.iand, 1) := by decide +kernel
theorem dX0_calculate_98 : decode cX0_calculate 98 = .ok (.ireturn, 1) := by decide +kernel
theorem dX0_multiply_0 : decode cX0_multiply 0 = .ok (.iload_n 0, 1) := by decide +kernel
theorem dX0_multiply_1 : decode cX0_multiply 1 = .ok (.tableswitch 55 0 2 #[27, 31, 41], 27) := by decide +kernel
theorem dX0_multiply_28 : decode cX0_multiply 28 = .ok (.iload_n 1, 1) := by decide +kernel
theorem dX0_multiply_29 : decode cX0_multiply 29 = .ok (.iload_n 2, 1) := by decide +kernel
theorem dX0_multiply_30 : decode cX0_multiply 30 = .ok (.imul, 1) := by decide +kernel
theorem dX0_multiply_31 : decode cX0_multiply 31 = .ok (.ireturn, 1) := by decide +kernel
theorem dX0_multiply_32 : decode cX0_multiply 32 = .ok (.iload_n 1, 1) := by decide +kernel
theorem dX0_multiply_33 : decode cX0_multiply 33 = .ok (.i2l, 1) := by decide +kernel
theorem dX0_multiply_34 : decode cX0_multiply 34 = .ok (.iload_n 2, 1) := by decide +kernel
theorem dX0_multiply_35 : decode cX0_multiply 35 = .ok (.i2l, 1) := by decide +kernel
theorem dX0_multiply_36 : decode cX0_multiply 36 = .ok (.lmul, 1) := by decide +kernel
theorem dX0_multiply_37 : decode cX0_multiply 37 = .ok (.bipush 32, 2) := by decide +kernel
theorem dX0_multiply_39 : decode cX0_multiply 39 = .ok (.lshr, 1) := by decide +kernel
theorem dX0_multiply_40 : decode cX0_multiply 40 = .ok (.l2i, 1) := by decide +kernel
theorem dX0_multiply_41 : decode cX0_multiply 41 = .ok (.ireturn, 1) := by decide +kernel
theorem dX0_multiply_42 : decode cX0_multiply 42 = .ok (.iload_n 1, 1) := by decide +kernel
theorem dX0_multiply_43 : decode cX0_multiply 43 = .ok (.i2l, 1) := by decide +kernel
theorem dX0_multiply_44 : decode cX0_multiply 44 = .ok (.iload_n 2, 1) := by decide +kernel
theorem dX0_multiply_45 : decode cX0_multiply 45 = .ok (.i2l, 1) := by decide +kernel
theorem dX0_multiply_46 : decode cX0_multiply 46 = .ok (.ldc2_w 174, 3) := by decide +kernel
theorem dX0_multiply_49 : decode cX0_multiply 49 = .ok (.land, 1) := by decide +kernel
theorem dX0_multiply_50 : decode cX0_multiply 50 = .ok (.lmul, 1) := by decide +kernel
theorem dX0_multiply_51 : decode cX0_multiply 51 = .ok (.bipush 32, 2) := by decide +kernel
theorem dX0_multiply_53 : decode cX0_multiply 53 = .ok (.lshr, 1) := by decide +kernel
theorem dX0_multiply_54 : decode cX0_multiply 54 = .ok (.l2i, 1) := by decide +kernel
theorem dX0_multiply_55 : decode cX0_multiply 55 = .ok (.ireturn, 1) := by decide +kernel
theorem dX0_multiply_56 : decode cX0_multiply 56 = .ok (.iload_n 1, 1) := by decide +kernel
theorem dX0_multiply_57 : decode cX0_multiply 57 = .ok (.i2l, 1) := by decide +kernel
theorem dX0_multiply_58 : decode cX0_multiply 58 = .ok (.ldc2_w 174, 3) := by decide +kernel
theorem dX0_multiply_61 : decode cX0_multiply 61 = .ok (.land, 1) := by decide +kernel
theorem dX0_multiply_62 : decode cX0_multiply 62 = .ok (.iload_n 2, 1) := by decide +kernel
theorem dX0_multiply_63 : decode cX0_multiply 63 = .ok (.i2l, 1) := by decide +kernel
theorem dX0_multiply_64 : decode cX0_multiply 64 = .ok (.ldc2_w 174, 3) := by decide +kernel
theorem dX0_multiply_67 : decode cX0_multiply 67 = .ok (.land, 1) := by decide +kernel
theorem dX0_multiply_68 : decode cX0_multiply 68 = .ok (.lmul, 1) := by decide +kernel
theorem dX0_multiply_69 : decode cX0_multiply 69 = .ok (.bipush 32, 2) := by decide +kernel
theorem dX0_multiply_71 : decode cX0_multiply 71 = .ok (.lushr, 1) := by decide +kernel
theorem dX0_multiply_72 : decode cX0_multiply 72 = .ok (.l2i, 1) := by decide +kernel
theorem dX0_multiply_73 : decode cX0_multiply 73 = .ok (.ireturn, 1) := by decide +kernel
theorem dX0_divide_0 : decode cX0_divide 0 = .ok (.iload_n 0, 1) := by decide +kernel
theorem dX0_divide_1 : decode cX0_divide 1 = .ok (.iconst 5, 1) := by decide +kernel
theorem dX0_divide_2 : decode cX0_divide 2 = .ok (.if_icmp .le 7, 3) := by decide +kernel
theorem dX0_divide_5 : decode cX0_divide 5 = .ok (.iconst 1, 1) := by decide +kernel
theorem dX0_divide_6 : decode cX0_divide 6 = .ok (.goto 4, 3) := by decide +kernel
theorem dX0_divide_9 : decode cX0_divide 9 = .ok (.iconst 0, 1) := by decide +kernel
theorem dX0_divide_10 : decode cX0_divide 10 = .ok (.istore_n 3, 1) := by decide +kernel
theorem dX0_divide_11 : decode cX0_divide 11 = .ok (.iload_n 2, 1) := by decide +kernel
theorem dX0_divide_12 : decode cX0_divide 12 = .ok (.ifCond .ne 13, 3) := by decide +kernel
theorem dX0_divide_15 : decode cX0_divide 15 = .ok (.iload_n 3, 1) := by decide +kernel
theorem dX0_divide_16 : decode cX0_divide 16 = .ok (.ifCond .eq 7, 3) := by decide +kernel
theorem dX0_divide_19 : decode cX0_divide 19 = .ok (.iload_n 1, 1) := by decide +kernel
theorem dX0_divide_20 : decode cX0_divide 20 = .ok (.goto 4, 3) := by decide +kernel
theorem dX0_divide_23 : decode cX0_divide 23 = .ok (.iconst (-1), 1) := by decide +kernel
theorem dX0_divide_24 : decode cX0_divide 24 = .ok (.ireturn, 1) := by decide +kernel
theorem dX0_divide_25 : decode cX0_divide 25 = .ok (.iload_n 0, 1) := by decide +kernel
theorem dX0_divide_26 : decode cX0_divide 26 = .ok (.iconst 1, 1) := by decide +kernel
theorem dX0_divide_27 : decode cX0_divide 27 = .ok (.iand, 1) := by decide +kernel
theorem dX0_divide_28 : decode cX0_divide 28 = .ok (.ifCond .ne 7, 3) := by decide +kernel
theorem dX0_divide_31 : decode cX0_divide 31 = .ok (.iconst 1, 1) := by decide +kernel
theorem dX0_divide_32 : decode cX0_divide 32 = .ok (.goto 4, 3) := by decide +kernel
theorem dX0_divide_35 : decode cX0_divide 35 = .ok (.iconst 0, 1) := by decide +kernel
theorem dX0_divide_36 : decode cX0_divide 36 = .ok (.istore 4, 2) := by decide +kernel
theorem dX0_divide_38 : decode cX0_divide 38 = .ok (.iload 4, 2) := by decide +kernel
theorem dX0_divide_40 : decode cX0_divide 40 = .ok (.ifCond .eq 8, 3) := by decide +kernel
theorem dX0_divide_43 : decode cX0_divide 43 = .ok (.iload_n 1, 1) := by decide +kernel
theorem dX0_divide_44 : decode cX0_divide 44 = .ok (.i2l, 1) := by decide +kernel
theorem dX0_divide_45 : decode cX0_divide 45 = .ok (.goto 9, 3) := by decide +kernel
theorem dX0_divide_48 : decode cX0_divide 48 = .ok (.iload_n 1, 1) := by decide +kernel
theorem dX0_divide_49 : decode cX0_divide 49 = .ok (.i2l, 1) := by decide +kernel
theorem dX0_divide_50 : decode cX0_divide 50 = .ok (.ldc2_w 174, 3) := by decide +kernel
theorem dX0_divide_53 : decode cX0_divide 53 = .ok (.land, 1) := by decide +kernel
theorem dX0_divide_54 : decode cX0_divide 54 = .ok (.lstore 5, 2) := by decide +kernel
theorem dX0_divide_56 : decode cX0_divide 56 = .ok (.iload 4, 2) := by decide +kernel
theorem dX0_divide_58 : decode cX0_divide 58 = .ok (.ifCond .eq 8, 3) := by decide +kernel
theorem dX0_divide_61 : decode cX0_divide 61 = .ok (.iload_n 2, 1) := by decide +kernel
theorem dX0_divide_62 : decode cX0_divide 62 = .ok (.i2l, 1) := by decide +kernel
theorem dX0_divide_63 : decode cX0_divide 63 = .ok (.goto 9, 3) := by decide +kernel
theorem dX0_divide_66 : decode cX0_divide 66 = .ok (.iload_n 2, 1) := by decide +kernel
theorem dX0_divide_67 : decode cX0_divide 67 = .ok (.i2l, 1) := by decide +kernel
theorem dX0_divide_68 : decode cX0_divide 68 = .ok (.ldc2_w 174, 3) := by decide +kernel
theorem dX0_divide_71 : decode cX0_divide 71 = .ok (.land, 1) := by decide +kernel
theorem dX0_divide_72 : decode cX0_divide 72 = .ok (.lstore 7, 2) := by decide +kernel
theorem dX0_divide_74 : decode cX0_divide 74 = .ok (.iload_n 3, 1) := by decide +kernel
theorem dX0_divide_75 : decode cX0_divide 75 = .ok (.ifCond .eq 11, 3) := by decide +kernel
theorem dX0_divide_78 : decode cX0_divide 78 = .ok (.lload 5, 2) := by decide +kernel
theorem dX0_divide_80 : decode cX0_divide 80 = .ok (.lload 7, 2) := by decide +kernel
theorem dX0_divide_82 : decode cX0_divide 82 = .ok (.lrem, 1) := by decide +kernel
theorem dX0_divide_83 : decode cX0_divide 83 = .ok (.goto 8, 3) := by decide +kernel
theorem dX0_divide_86 : decode cX0_divide 86 = .ok (.lload 5, 2) := by decide +kernel
theorem dX0_divide_88 : decode cX0_divide 88 = .ok (.lload 7, 2) := by decide +kernel
theorem dX0_divide_90 : decode cX0_divide 90 = .ok (.ldiv, 1) := by decide +kernel
theorem dX0_divide_91 : decode cX0_divide 91 = .ok (.l2i, 1) := by decide +kernel
theorem dX0_divide_92 : decode cX0_divide 92 = .ok (.ireturn, 1) := by decide +kernel
theorem dX0_performSystem_0 : decode cX0_performSystem 0 = .ok (.iload_n 1, 1) := by decide +kernel
theorem dX0_performSystem_1 : decode cX0_performSystem 1 = .ok (.bipush 115, 2) := by decide +kernel
theorem dX0_performSystem_3 : decode cX0_performSystem 3 = .ok (.if_icmp .ne 8, 3) := by decide +kernel
theorem dX0_performSystem_6 : decode cX0_performSystem 6 = .ok (.aload_n 0, 1) := by decide +kernel
theorem dX0_performSystem_7 : decode cX0_performSystem 7 = .ok (.invokevirtual 198, 3) := by decide +kernel
theorem dX0_performSystem_10 : decode cX0_performSystem 10 = .ok (.ireturn, 1) := by decide +kernel
theorem dX0_performSystem_11 : decode cX0_performSystem 11 = .ok (.iload_n 1, 1) := by decide +kernel
theorem dX0_performSystem_12 : decode cX0_performSystem 12 = .ok (.ldc 201, 2) := by decide +kernel
theorem dX0_performSystem_14 : decode cX0_performSystem 14 = .ok (.if_icmp .ne 13, 3) := by decide +kernel
theorem dX0_performSystem_17 : decode cX0_performSystem 17 = .ok (.aload_n 0, 1) := by decide +kernel
theorem dX0_performSystem_18 : decode cX0_performSystem 18 = .ok (.iconst 3, 1) := by decide +kernel
theorem dX0_performSystem_19 : decode cX0_performSystem 19 = .ok (.aload_n 0, 1) := by decide +kernel
theorem dX0_performSystem_20 : decode cX0_performSystem 20 = .ok (.getfield 20, 3) := by decide +kernel
theorem dX0_performSystem_23 : decode cX0_performSystem 23 = .ok (.invokevirtual 96, 3) := by decide +kernel
theorem dX0_performSystem_26 : decode cX0_performSystem 26 = .ok (.ireturn, 1) := by decide +kernel
theorem dX0_performSystem_27 : decode cX0_performSystem 27 = .ok (.aload_n 0, 1) := by decide +kernel
theorem dX0_performSystem_28 : decode cX0_performSystem 28 = .ok (.getfield 24, 3) := by decide +kernel
theorem dX0_performSystem_31 : decode cX0_performSystem 31 = .ok (.ifCond .ne 9, 3) := by decide +kernel
theorem dX0_performSystem_34 : decode cX0_performSystem 34 = .ok (.aload_n 0, 1) := by decide +kernel
theorem dX0_performSystem_35 : decode cX0_performSystem 35 = .ok (.iload_n 1, 1) := by decide +kernel
theorem dX0_performSystem_36 : decode cX0_performSystem 36 = .ok (.invokevirtual 140, 3) := by decide +kernel
theorem dX0_performSystem_39 : decode cX0_performSystem 39 = .ok (.ireturn, 1) := by decide +kernel
theorem dX0_performSystem_40 : decode cX0_performSystem 40 = .ok (.iload_n 1, 1) := by decide +kernel
theorem dX0_performSystem_41 : decode cX0_performSystem 41 = .ok (.invokestatic 131, 3) := by decide +kernel
theorem dX0_performSystem_44 : decode cX0_performSystem 44 = .ok (.ifCond .eq 9, 3) := by decide +kernel
theorem dX0_performSystem_47 : decode cX0_performSystem 47 = .ok (.aload_n 0, 1) := by decide +kernel
theorem dX0_performSystem_48 : decode cX0_performSystem 48 = .ok (.iload_n 1, 1) := by decide +kernel
theorem dX0_performSystem_49 : decode cX0_performSystem 49 = .ok (.invokevirtual 202, 3) := by decide +kernel
theorem dX0_performSystem_52 : decode cX0_performSystem 52 = .ok (.ireturn, 1) := by decide +kernel
theorem dX0_performSystem_53 : decode cX0_performSystem 53 = .ok (.iload_n 1, 1) := by decide +kernel
theorem dX0_performSystem_54 : decode cX0_performSystem 54 = .ok (.ldc 205, 2) := by decide +kernel
theorem dX0_performSystem_56 : decode cX0_performSystem 56 = .ok (.if_icmp .ne 8, 3) := by decide +kernel
theorem dX0_performSystem_59 : decode cX0_performSystem 59 = .ok (.aload_n 0, 1) := by decide +kernel
theorem dX0_performSystem_60 : decode cX0_performSystem 60 = .ok (.invokevirtual 206, 3) := by decide +kernel
theorem dX0_performSystem_63 : decode cX0_performSystem 63 = .ok (.ireturn, 1) := by decide +kernel
theorem dX0_performSystem_64 : decode cX0_performSystem 64 = .ok (.iload_n 1, 1) := by decide +kernel
theorem dX0_performSystem_65 : decode cX0_performSystem 65 = .ok (.ldc 209, 2) := by decide +kernel
theorem dX0_performSystem_67 : decode cX0_performSystem 67 = .ok (.if_icmp .eq 12, 3) := by decide +kernel
theorem dX0_performSystem_70 : decode cX0_performSystem 70 = .ok (.iload_n 1, 1) := by decide +kernel
theorem dX0_performSystem_71 : decode cX0_performSystem 71 = .ok (.ldc 210, 2) := by decide +kernel
theorem dX0_performSystem_73 : decode cX0_performSystem 73 = .ok (.iand, 1) := by decide +kernel
theorem dX0_performSystem_74 : decode cX0_performSystem 74 = .ok (.ldc 211, 2) := by decide +kernel
theorem dX0_performSystem_76 : decode cX0_performSystem 76 = .ok (.if_icmp .ne 8, 3) := by decide +kernel
theorem dX0_performSystem_79 : decode cX0_performSystem 79 = .ok (.aload_n 0, 1) := by decide +kernel
theorem dX0_performSystem_80 : decode cX0_performSystem 80 = .ok (.invokevirtual 115, 3) := by decide +kernel
theorem dX0_performSystem_83 : decode cX0_performSystem 83 = .ok (.ireturn, 1) := by decide +kernel
theorem dX0_performSystem_84 : decode cX0_performSystem 84 = .ok (.aload_n 0, 1) := by decide +kernel
theorem dX0_performSystem_85 : decode cX0_performSystem 85 = .ok (.iload_n 1, 1) := by decide +kernel
theorem dX0_performSystem_86 : decode cX0_performSystem 86 = .ok (.invokevirtual 140, 3) := by decide +kernel
theorem dX0_performSystem_89 : decode cX0_performSystem 89 = .ok (.ireturn, 1) := by decide +kernel
theorem dX0_call_0 : decode cX0_call 0 = .ok (.aload_n 0, 1) := by decide +kernel
theorem dX0_call_1 : decode cX0_call 1 = .ok (.getfield 24, 3) := by decide +kernel
theorem dX0_call_4 : decode cX0_call 4 = .ok (.ifCond .ne 11, 3) := by decide +kernel
theorem dX0_call_7 : decode cX0_call 7 = .ok (.aload_n 0, 1) := by decide +kernel
theorem dX0_call_8 : decode cX0_call 8 = .ok (.bipush 8, 2) := by decide +kernel
theorem dX0_call_10 : decode cX0_call 10 = .ok (.iconst 0, 1) := by decide +kernel
theorem dX0_call_11 : decode cX0_call 11 = .ok (.invokevirtual 96, 3) := by decide +kernel
theorem dX0_call_14 : decode cX0_call 14 = .ok (.ireturn, 1) := by decide +kernel
theorem dX0_call_15 : decode cX0_call 15 = .ok (.aload_n 0, 1) := by decide +kernel
theorem dX0_call_16 : decode cX0_call 16 = .ok (.iconst 1, 1) := by decide +kernel
theorem dX0_call_17 : decode cX0_call 17 = .ok (.putfield 27, 3) := by decide +kernel
theorem dX0_call_20 : decode cX0_call 20 = .ok (.aload_n 0, 1) := by decide +kernel
theorem dX0_call_21 : decode cX0_call 21 = .ok (.invokevirtual 115, 3) := by decide +kernel
theorem dX0_call_24 : decode cX0_call 24 = .ok (.ireturn, 1) := by decide +kernel
theorem dX0_returnFromTrap_0 : decode cX0_returnFromTrap 0 = .ok (.aload_n 0, 1) := by decide +kernel
theorem dX0_returnFromTrap_1 : decode cX0_returnFromTrap 1 = .ok (.aload_n 0, 1) := by decide +kernel
theorem dX0_returnFromTrap_2 : decode cX0_returnFromTrap 2 = .ok (.getfield 17, 3) := by decide +kernel
theorem dX0_returnFromTrap_5 : decode cX0_returnFromTrap 5 = .ok (.iconst 3, 1) := by decide +kernel
theorem dX0_returnFromTrap_6 : decode cX0_returnFromTrap 6 = .ok (.iaload, 1) := by decide +kernel
theorem dX0_returnFromTrap_7 : decode cX0_returnFromTrap 7 = .ok (.putfield 20, 3) := by decide +kernel
theorem dX0_returnFromTrap_10 : decode cX0_returnFromTrap 10 = .ok (.aload_n 0, 1) := by decide +kernel
theorem dX0_returnFromTrap_11 : decode cX0_returnFromTrap 11 = .ok (.aload_n 0, 1) := by decide +kernel
theorem dX0_returnFromTrap_12 : decode cX0_returnFromTrap 12 = .ok (.getfield 17, 3) := by decide +kernel
theorem dX0_returnFromTrap_15 : decode cX0_returnFromTrap 15 = .ok (.iconst 0, 1) := by decide +kernel
theorem dX0_returnFromTrap_16 : decode cX0_returnFromTrap 16 = .ok (.iaload, 1) := by decide +kernel
theorem dX0_returnFromTrap_17 : decode cX0_returnFromTrap 17 = .ok (.bipush 8, 2) := by decide +kernel
theorem dX0_returnFromTrap_19 : decode cX0_returnFromTrap 19 = .ok (.iushr, 1) := by decide +kernel
theorem dX0_returnFromTrap_20 : decode cX0_returnFromTrap 20 = .ok (.iconst 1, 1) := by decide +kernel
theorem dX0_returnFromTrap_21 : decode cX0_returnFromTrap 21 = .ok (.iand, 1) := by decide +kernel
theorem dX0_returnFromTrap_22 : decode cX0_returnFromTrap 22 = .ok (.putfield 24, 3) := by decide +kernel
theorem dX0_returnFromTrap_25 : decode cX0_returnFromTrap 25 = .ok (.aload_n 0, 1) := by decide +kernel
theorem dX0_returnFromTrap_26 : decode cX0_returnFromTrap 26 = .ok (.getfield 17, 3) := by decide +kernel
theorem dX0_returnFromTrap_29 : decode cX0_returnFromTrap 29 = .ok (.iconst 0, 1) := by decide +kernel
theorem dX0_returnFromTrap_30 : decode cX0_returnFromTrap 30 = .ok (.dup2, 1) := by decide +kernel
theorem dX0_returnFromTrap_31 : decode cX0_returnFromTrap 31 = .ok (.iaload, 1) := by decide +kernel
theorem dX0_returnFromTrap_32 : decode cX0_returnFromTrap 32 = .ok (.sipush (-257), 3) := by decide +kernel
theorem dX0_returnFromTrap_35 : decode cX0_returnFromTrap 35 = .ok (.iand, 1) := by decide +kernel
theorem dX0_returnFromTrap_36 : decode cX0_returnFromTrap 36 = .ok (.iastore, 1) := by decide +kernel
theorem dX0_returnFromTrap_37 : decode cX0_returnFromTrap 37 = .ok (.iconst 1, 1) := by decide +kernel
theorem dX0_returnFromTrap_38 : decode cX0_returnFromTrap 38 = .ok (.ireturn, 1) := by decide +kernel
theorem dX0_changeControl_0 : decode cX0_changeControl 0 = .ok (.iload_n 1, 1) := by decide +kernel
theorem dX0_changeControl_1 : decode cX0_changeControl 1 = .ok (.invokestatic 131, 3) := by decide +kernel
theorem dX0_changeControl_4 : decode cX0_changeControl 4 = .ok (.istore_n 2, 1) := by decide +kernel
theorem dX0_changeControl_5 : decode cX0_changeControl 5 = .ok (.iload_n 1, 1) := by decide +kernel
theorem dX0_changeControl_6 : decode cX0_changeControl 6 = .ok (.bipush 20, 2) := by decide +kernel
theorem dX0_changeControl_8 : decode cX0_changeControl 8 = .ok (.iushr, 1) := by decide +kernel
theorem dX0_changeControl_9 : decode cX0_changeControl 9 = .ok (.invokestatic 54, 3) := by decide +kernel
theorem dX0_changeControl_12 : decode cX0_changeControl 12 = .ok (.istore_n 3, 1) := by decide +kernel
theorem dX0_changeControl_13 : decode cX0_changeControl 13 = .ok (.iload_n 2, 1) := by decide +kernel
theorem dX0_changeControl_14 : decode cX0_changeControl 14 = .ok (.iconst 4, 1) := by decide +kernel
theorem dX0_changeControl_15 : decode cX0_changeControl 15 = .ok (.if_icmp .eq 7, 3) := by decide +kernel
theorem dX0_changeControl_18 : decode cX0_changeControl 18 = .ok (.iload_n 3, 1) := by decide +kernel
theorem dX0_changeControl_19 : decode cX0_changeControl 19 = .ok (.ifCond .ge 9, 3) := by decide +kernel
theorem dX0_changeControl_22 : decode cX0_changeControl 22 = .ok (.aload_n 0, 1) := by decide +kernel
theorem dX0_changeControl_23 : decode cX0_changeControl 23 = .ok (.iload_n 1, 1) := by decide +kernel
theorem dX0_changeControl_24 : decode cX0_changeControl 24 = .ok (.invokevirtual 140, 3) := by decide +kernel
theorem dX0_changeControl_27 : decode cX0_changeControl 27 = .ok (.ireturn, 1) := by decide +kernel
theorem dX0_changeControl_28 : decode cX0_changeControl 28 = .ok (.aload_n 0, 1) := by decide +kernel
theorem dX0_changeControl_29 : decode cX0_changeControl 29 = .ok (.getfield 17, 3) := by decide +kernel
theorem dX0_changeControl_32 : decode cX0_changeControl 32 = .ok (.iload_n 3, 1) := by decide +kernel
theorem dX0_changeControl_33 : decode cX0_changeControl 33 = .ok (.iaload, 1) := by decide +kernel
theorem dX0_changeControl_34 : decode cX0_changeControl 34 = .ok (.istore 4, 2) := by decide +kernel
theorem dX0_changeControl_36 : decode cX0_changeControl 36 = .ok (.iload_n 2, 1) := by decide +kernel
theorem dX0_changeControl_37 : decode cX0_changeControl 37 = .ok (.iconst 4, 1) := by decide +kernel
theorem dX0_changeControl_38 : decode cX0_changeControl 38 = .ok (.if_icmp .le 13, 3) := by decide +kernel
theorem dX0_changeControl_41 : decode cX0_changeControl 41 = .ok (.iload_n 1, 1) := by decide +kernel
theorem dX0_changeControl_42 : decode cX0_changeControl 42 = .ok (.bipush 15, 2) := by decide +kernel
theorem dX0_changeControl_44 : decode cX0_changeControl 44 = .ok (.iushr, 1) := by decide +kernel
theorem dX0_changeControl_45 : decode cX0_changeControl 45 = .ok (.bipush 31, 2) := by decide +kernel
theorem dX0_changeControl_47 : decode cX0_changeControl 47 = .ok (.iand, 1) := by decide +kernel
theorem dX0_changeControl_48 : decode cX0_changeControl 48 = .ok (.goto 8, 3) := by decide +kernel
theorem dX0_changeControl_51 : decode cX0_changeControl 51 = .ok (.aload_n 0, 1) := by decide +kernel
theorem dX0_changeControl_52 : decode cX0_changeControl 52 = .ok (.iload_n 1, 1) := by decide +kernel
theorem dX0_changeControl_53 : decode cX0_changeControl 53 = .ok (.invokevirtual 134, 3) := by decide +kernel
theorem dX0_changeControl_56 : decode cX0_changeControl 56 = .ok (.istore 5, 2) := by decide +kernel
theorem dX0_changeControl_58 : decode cX0_changeControl 58 = .ok (.aload_n 0, 1) := by decide +kernel
theorem dX0_changeControl_59 : decode cX0_changeControl 59 = .ok (.getfield 17, 3) := by decide +kernel
theorem dX0_changeControl_62 : decode cX0_changeControl 62 = .ok (.iload_n 3, 1) := by decide +kernel
theorem dX0_changeControl_63 : decode cX0_changeControl 63 = .ok (.iload_n 2, 1) := by decide +kernel
theorem dX0_changeControl_64 : decode cX0_changeControl 64 = .ok (.iconst 3, 1) := by decide +kernel
theorem dX0_changeControl_65 : decode cX0_changeControl 65 = .ok (.iand, 1) := by decide +kernel
theorem dX0_changeControl_66 : decode cX0_changeControl 66 = .ok (.iload 4, 2) := by decide +kernel
theorem dX0_changeControl_68 : decode cX0_changeControl 68 = .ok (.iload 5, 2) := by decide +kernel
theorem dX0_changeControl_70 : decode cX0_changeControl 70 = .ok (.invokestatic 212, 3) := by decide +kernel
theorem dX0_changeControl_73 : decode cX0_changeControl 73 = .ok (.getstatic 63, 3) := by decide +kernel
theorem dX0_changeControl_76 : decode cX0_changeControl 76 = .ok (.iload_n 3, 1) := by decide +kernel
theorem dX0_changeControl_77 : decode cX0_changeControl 77 = .ok (.iaload, 1) := by decide +kernel
theorem dX0_changeControl_78 : decode cX0_changeControl 78 = .ok (.iand, 1) := by decide +kernel
theorem dX0_changeControl_79 : decode cX0_changeControl 79 = .ok (.iastore, 1) := by decide +kernel
theorem dX0_changeControl_80 : decode cX0_changeControl 80 = .ok (.aload_n 0, 1) := by decide +kernel
theorem dX0_changeControl_81 : decode cX0_changeControl 81 = .ok (.iload_n 1, 1) := by decide +kernel
theorem dX0_changeControl_82 : decode cX0_changeControl 82 = .ok (.iload 4, 2) := by decide +kernel
theorem dX0_changeControl_84 : decode cX0_changeControl 84 = .ok (.invokevirtual 122, 3) := by decide +kernel
theorem dX0_changeControl_87 : decode cX0_changeControl 87 = .ok (.ireturn, 1) := by decide +kernel
theorem dX0_changed_0 : decode cX0_changed 0 = .ok (.iload_n 0, 1) := by decide +kernel
theorem dX0_changed_1 : decode cX0_changed 1 = .ok (.iconst 1, 1) := by decide +kernel
theorem dX0_changed_2 : decode cX0_changed 2 = .ok (.if_icmp .ne 5, 3) := by decide +kernel
theorem dX0_changed_5 : decode cX0_changed 5 = .ok (.iload_n 2, 1) := by decide +kernel
theorem dX0_changed_6 : decode cX0_changed 6 = .ok (.ireturn, 1) := by decide +kernel
theorem dX0_changed_7 : decode cX0_changed 7 = .ok (.iload_n 0, 1) := by decide +kernel
theorem dX0_changed_8 : decode cX0_changed 8 = .ok (.iconst 2, 1) := by decide +kernel
theorem dX0_changed_9 : decode cX0_changed 9 = .ok (.if_icmp .ne 9, 3) := by decide +kernel
theorem dX0_changed_12 : decode cX0_changed 12 = .ok (.iload_n 1, 1) := by decide +kernel
theorem dX0_changed_13 : decode cX0_changed 13 = .ok (.iload_n 2, 1) := by decide +kernel
theorem dX0_changed_14 : decode cX0_changed 14 = .ok (.ior, 1) := by decide +kernel
theorem dX0_changed_15 : decode cX0_changed 15 = .ok (.goto 8, 3) := by decide +kernel
theorem dX0_changed_18 : decode cX0_changed 18 = .ok (.iload_n 1, 1) := by decide +kernel
theorem dX0_changed_19 : decode cX0_changed 19 = .ok (.iload_n 2, 1) := by decide +kernel
theorem dX0_changed_20 : decode cX0_changed 20 = .ok (.iconst (-1), 1) := by decide +kernel
theorem dX0_changed_21 : decode cX0_changed 21 = .ok (.ixor, 1) := by decide +kernel
theorem dX0_changed_22 : decode cX0_changed 22 = .ok (.iand, 1) := by decide +kernel
theorem dX0_changed_23 : decode cX0_changed 23 = .ok (.ireturn, 1) := by decide +kernel
