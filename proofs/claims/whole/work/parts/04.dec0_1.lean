theorem dX0_trap_5 : decode cX0_trap 5 = .ok (.aload_n 0, 1) := by decide +kernel
theorem dX0_trap_6 : decode cX0_trap 6 = .ok (.getfield 20, 3) := by decide +kernel
theorem dX0_trap_9 : decode cX0_trap 9 = .ok (.getstatic 63, 3) := by decide +kernel
theorem dX0_trap_12 : decode cX0_trap 12 = .ok (.iconst 3, 1) := by decide +kernel
theorem dX0_trap_13 : decode cX0_trap 13 = .ok (.iaload, 1) := by decide +kernel
theorem dX0_trap_14 : decode cX0_trap 14 = .ok (.iand, 1) := by decide +kernel
theorem dX0_trap_15 : decode cX0_trap 15 = .ok (.iastore, 1) := by decide +kernel
theorem dX0_trap_16 : decode cX0_trap 16 = .ok (.aload_n 0, 1) := by decide +kernel
theorem dX0_trap_17 : decode cX0_trap 17 = .ok (.getfield 17, 3) := by decide +kernel
theorem dX0_trap_20 : decode cX0_trap 20 = .ok (.iconst 4, 1) := by decide +kernel
theorem dX0_trap_21 : decode cX0_trap 21 = .ok (.iload_n 1, 1) := by decide +kernel
theorem dX0_trap_22 : decode cX0_trap 22 = .ok (.iastore, 1) := by decide +kernel
theorem dX0_trap_23 : decode cX0_trap 23 = .ok (.aload_n 0, 1) := by decide +kernel
theorem dX0_trap_24 : decode cX0_trap 24 = .ok (.getfield 17, 3) := by decide +kernel
theorem dX0_trap_27 : decode cX0_trap 27 = .ok (.iconst 5, 1) := by decide +kernel
theorem dX0_trap_28 : decode cX0_trap 28 = .ok (.iload_n 2, 1) := by decide +kernel
theorem dX0_trap_29 : decode cX0_trap 29 = .ok (.iastore, 1) := by decide +kernel
theorem dX0_trap_30 : decode cX0_trap 30 = .ok (.aload_n 0, 1) := by decide +kernel
theorem dX0_trap_31 : decode cX0_trap 31 = .ok (.getfield 17, 3) := by decide +kernel
theorem dX0_trap_34 : decode cX0_trap 34 = .ok (.iconst 0, 1) := by decide +kernel
theorem dX0_trap_35 : decode cX0_trap 35 = .ok (.aload_n 0, 1) := by decide +kernel
theorem dX0_trap_36 : decode cX0_trap 36 = .ok (.getfield 17, 3) := by decide +kernel
theorem dX0_trap_39 : decode cX0_trap 39 = .ok (.iconst 0, 1) := by decide +kernel
theorem dX0_trap_40 : decode cX0_trap 40 = .ok (.iaload, 1) := by decide +kernel
theorem dX0_trap_41 : decode cX0_trap 41 = .ok (.ldc 72, 2) := by decide +kernel
theorem dX0_trap_43 : decode cX0_trap 43 = .ok (.iand, 1) := by decide +kernel
theorem dX0_trap_44 : decode cX0_trap 44 = .ok (.aload_n 0, 1) := by decide +kernel
theorem dX0_trap_45 : decode cX0_trap 45 = .ok (.getfield 24, 3) := by decide +kernel
theorem dX0_trap_48 : decode cX0_trap 48 = .ok (.bipush 8, 2) := by decide +kernel
theorem dX0_trap_50 : decode cX0_trap 50 = .ok (.ishl, 1) := by decide +kernel
theorem dX0_trap_51 : decode cX0_trap 51 = .ok (.ior, 1) := by decide +kernel
theorem dX0_trap_52 : decode cX0_trap 52 = .ok (.iastore, 1) := by decide +kernel
theorem dX0_trap_53 : decode cX0_trap 53 = .ok (.aload_n 0, 1) := by decide +kernel
theorem dX0_trap_54 : decode cX0_trap 54 = .ok (.iconst 1, 1) := by decide +kernel
theorem dX0_trap_55 : decode cX0_trap 55 = .ok (.putfield 24, 3) := by decide +kernel
theorem dX0_trap_58 : decode cX0_trap 58 = .ok (.aload_n 0, 1) := by decide +kernel
theorem dX0_trap_59 : decode cX0_trap 59 = .ok (.aload_n 0, 1) := by decide +kernel
theorem dX0_trap_60 : decode cX0_trap 60 = .ok (.getfield 17, 3) := by decide +kernel
theorem dX0_trap_63 : decode cX0_trap 63 = .ok (.iconst 1, 1) := by decide +kernel
theorem dX0_trap_64 : decode cX0_trap 64 = .ok (.iaload, 1) := by decide +kernel
theorem dX0_trap_65 : decode cX0_trap 65 = .ok (.putfield 20, 3) := by decide +kernel
theorem dX0_trap_68 : decode cX0_trap 68 = .ok (.iconst 0, 1) := by decide +kernel
theorem dX0_trap_69 : decode cX0_trap 69 = .ok (.ireturn, 1) := by decide +kernel
theorem dX0_refuse_0 : decode cX0_refuse 0 = .ok (.aload_n 0, 1) := by decide +kernel
theorem dX0_refuse_1 : decode cX0_refuse 1 = .ok (.iconst 2, 1) := by decide +kernel
theorem dX0_refuse_2 : decode cX0_refuse 2 = .ok (.iload_n 1, 1) := by decide +kernel
theorem dX0_refuse_3 : decode cX0_refuse 3 = .ok (.invokevirtual 96, 3) := by decide +kernel
theorem dX0_refuse_6 : decode cX0_refuse 6 = .ok (.ireturn, 1) := by decide +kernel
theorem dX0_goOn_0 : decode cX0_goOn 0 = .ok (.aload_n 0, 1) := by decide +kernel
theorem dX0_goOn_1 : decode cX0_goOn 1 = .ok (.dup, 1) := by decide +kernel
theorem dX0_goOn_2 : decode cX0_goOn 2 = .ok (.getfield 20, 3) := by decide +kernel
theorem dX0_goOn_5 : decode cX0_goOn 5 = .ok (.iconst 4, 1) := by decide +kernel
theorem dX0_goOn_6 : decode cX0_goOn 6 = .ok (.iadd, 1) := by decide +kernel
theorem dX0_goOn_7 : decode cX0_goOn 7 = .ok (.putfield 20, 3) := by decide +kernel
theorem dX0_goOn_10 : decode cX0_goOn 10 = .ok (.iconst 1, 1) := by decide +kernel
theorem dX0_goOn_11 : decode cX0_goOn 11 = .ok (.ireturn, 1) := by decide +kernel
theorem dX0_goOnWith_0 : decode cX0_goOnWith 0 = .ok (.aload_n 0, 1) := by decide +kernel
theorem dX0_goOnWith_1 : decode cX0_goOnWith 1 = .ok (.iload_n 1, 1) := by decide +kernel
theorem dX0_goOnWith_2 : decode cX0_goOnWith 2 = .ok (.iload_n 2, 1) := by decide +kernel
theorem dX0_goOnWith_3 : decode cX0_goOnWith 3 = .ok (.invokevirtual 111, 3) := by decide +kernel
theorem dX0_goOnWith_6 : decode cX0_goOnWith 6 = .ok (.aload_n 0, 1) := by decide +kernel
theorem dX0_goOnWith_7 : decode cX0_goOnWith 7 = .ok (.invokevirtual 115, 3) := by decide +kernel
theorem dX0_goOnWith_10 : decode cX0_goOnWith 10 = .ok (.ireturn, 1) := by decide +kernel
theorem dX0_writeD_0 : decode cX0_writeD 0 = .ok (.iload_n 1, 1) := by decide +kernel
theorem dX0_writeD_1 : decode cX0_writeD 1 = .ok (.bipush 7, 2) := by decide +kernel
theorem dX0_writeD_3 : decode cX0_writeD 3 = .ok (.iushr, 1) := by decide +kernel
theorem dX0_writeD_4 : decode cX0_writeD 4 = .ok (.bipush 31, 2) := by decide +kernel
theorem dX0_writeD_6 : decode cX0_writeD 6 = .ok (.iand, 1) := by decide +kernel
theorem dX0_writeD_7 : decode cX0_writeD 7 = .ok (.istore_n 3, 1) := by decide +kernel
theorem dX0_writeD_8 : decode cX0_writeD 8 = .ok (.iload_n 3, 1) := by decide +kernel
theorem dX0_writeD_9 : decode cX0_writeD 9 = .ok (.ifCond .eq 10, 3) := by decide +kernel
theorem dX0_writeD_12 : decode cX0_writeD 12 = .ok (.aload_n 0, 1) := by decide +kernel
theorem dX0_writeD_13 : decode cX0_writeD 13 = .ok (.getfield 14, 3) := by decide +kernel
theorem dX0_writeD_16 : decode cX0_writeD 16 = .ok (.iload_n 3, 1) := by decide +kernel
theorem dX0_writeD_17 : decode cX0_writeD 17 = .ok (.iload_n 2, 1) := by decide +kernel
theorem dX0_writeD_18 : decode cX0_writeD 18 = .ok (.iastore, 1) := by decide +kernel
theorem dX0_writeD_19 : decode cX0_writeD 19 = .ok (.return_, 1) := by decide +kernel
theorem dX0_fOf_0 : decode cX0_fOf 0 = .ok (.iload_n 0, 1) := by decide +kernel
theorem dX0_fOf_1 : decode cX0_fOf 1 = .ok (.bipush 12, 2) := by decide +kernel
theorem dX0_fOf_3 : decode cX0_fOf 3 = .ok (.iushr, 1) := by decide +kernel
theorem dX0_fOf_4 : decode cX0_fOf 4 = .ok (.bipush 7, 2) := by decide +kernel
theorem dX0_fOf_6 : decode cX0_fOf 6 = .ok (.iand, 1) := by decide +kernel
theorem dX0_fOf_7 : decode cX0_fOf 7 = .ok (.ireturn, 1) := by decide +kernel
theorem dX0_gOf_0 : decode cX0_gOf 0 = .ok (.iload_n 0, 1) := by decide +kernel
theorem dX0_gOf_1 : decode cX0_gOf 1 = .ok (.bipush 25, 2) := by decide +kernel
theorem dX0_gOf_3 : decode cX0_gOf 3 = .ok (.iushr, 1) := by decide +kernel
theorem dX0_gOf_4 : decode cX0_gOf 4 = .ok (.ireturn, 1) := by decide +kernel
theorem dX0_aOf_0 : decode cX0_aOf 0 = .ok (.aload_n 0, 1) := by decide +kernel
theorem dX0_aOf_1 : decode cX0_aOf 1 = .ok (.getfield 14, 3) := by decide +kernel
theorem dX0_aOf_4 : decode cX0_aOf 4 = .ok (.iload_n 1, 1) := by decide +kernel
theorem dX0_aOf_5 : decode cX0_aOf 5 = .ok (.bipush 15, 2) := by decide +kernel
theorem dX0_aOf_7 : decode cX0_aOf 7 = .ok (.iushr, 1) := by decide +kernel
theorem dX0_aOf_8 : decode cX0_aOf 8 = .ok (.bipush 31, 2) := by decide +kernel
theorem dX0_aOf_10 : decode cX0_aOf 10 = .ok (.iand, 1) := by decide +kernel
theorem dX0_aOf_11 : decode cX0_aOf 11 = .ok (.iaload, 1) := by decide +kernel
theorem dX0_aOf_12 : decode cX0_aOf 12 = .ok (.ireturn, 1) := by decide +kernel
theorem dX0_bOf_0 : decode cX0_bOf 0 = .ok (.aload_n 0, 1) := by decide +kernel
theorem dX0_bOf_1 : decode cX0_bOf 1 = .ok (.getfield 14, 3) := by decide +kernel
theorem dX0_bOf_4 : decode cX0_bOf 4 = .ok (.iload_n 1, 1) := by decide +kernel
theorem dX0_bOf_5 : decode cX0_bOf 5 = .ok (.bipush 20, 2) := by decide +kernel
theorem dX0_bOf_7 : decode cX0_bOf 7 = .ok (.iushr, 1) := by decide +kernel
theorem dX0_bOf_8 : decode cX0_bOf 8 = .ok (.bipush 31, 2) := by decide +kernel
theorem dX0_bOf_10 : decode cX0_bOf 10 = .ok (.iand, 1) := by decide +kernel
theorem dX0_bOf_11 : decode cX0_bOf 11 = .ok (.iaload, 1) := by decide +kernel
theorem dX0_bOf_12 : decode cX0_bOf 12 = .ok (.ireturn, 1) := by decide +kernel
theorem dX0_iOf_0 : decode cX0_iOf 0 = .ok (.iload_n 0, 1) := by decide +kernel
theorem dX0_iOf_1 : decode cX0_iOf 1 = .ok (.bipush 20, 2) := by decide +kernel
theorem dX0_iOf_3 : decode cX0_iOf 3 = .ok (.ishr, 1) := by decide +kernel
theorem dX0_iOf_4 : decode cX0_iOf 4 = .ok (.ireturn, 1) := by decide +kernel
theorem dX0_sOf_0 : decode cX0_sOf 0 = .ok (.iload_n 0, 1) := by decide +kernel
theorem dX0_sOf_1 : decode cX0_sOf 1 = .ok (.bipush 25, 2) := by decide +kernel
theorem dX0_sOf_3 : decode cX0_sOf 3 = .ok (.ishr, 1) := by decide +kernel
theorem dX0_sOf_4 : decode cX0_sOf 4 = .ok (.iconst 5, 1) := by decide +kernel
theorem dX0_sOf_5 : decode cX0_sOf 5 = .ok (.ishl, 1) := by decide +kernel
theorem dX0_sOf_6 : decode cX0_sOf 6 = .ok (.iload_n 0, 1) := by decide +kernel
theorem dX0_sOf_7 : decode cX0_sOf 7 = .ok (.bipush 7, 2) := by decide +kernel
theorem dX0_sOf_9 : decode cX0_sOf 9 = .ok (.iushr, 1) := by decide +kernel
theorem dX0_sOf_10 : decode cX0_sOf 10 = .ok (.bipush 31, 2) := by decide +kernel
theorem dX0_sOf_12 : decode cX0_sOf 12 = .ok (.iand, 1) := by decide +kernel
theorem dX0_sOf_13 : decode cX0_sOf 13 = .ok (.ior, 1) := by decide +kernel
theorem dX0_sOf_14 : decode cX0_sOf 14 = .ok (.ireturn, 1) := by decide +kernel
theorem dX0_uOf_0 : decode cX0_uOf 0 = .ok (.iload_n 0, 1) := by decide +kernel
theorem dX0_uOf_1 : decode cX0_uOf 1 = .ok (.sipush (-4096), 3) := by decide +kernel
theorem dX0_uOf_4 : decode cX0_uOf 4 = .ok (.iand, 1) := by decide +kernel
theorem dX0_uOf_5 : decode cX0_uOf 5 = .ok (.ireturn, 1) := by decide +kernel
theorem dX0_branchDistance_0 : decode cX0_branchDistance 0 = .ok (.iload_n 0, 1) := by decide +kernel
theorem dX0_branchDistance_1 : decode cX0_branchDistance 1 = .ok (.bipush 31, 2) := by decide +kernel
theorem dX0_branchDistance_3 : decode cX0_branchDistance 3 = .ok (.ishr, 1) := by decide +kernel
theorem dX0_branchDistance_4 : decode cX0_branchDistance 4 = .ok (.bipush 12, 2) := by decide +kernel
theorem dX0_branchDistance_6 : decode cX0_branchDistance 6 = .ok (.ishl, 1) := by decide +kernel
theorem dX0_branchDistance_7 : decode cX0_branchDistance 7 = .ok (.iload_n 0, 1) := by decide +kernel
theorem dX0_branchDistance_8 : decode cX0_branchDistance 8 = .ok (.bipush 7, 2) := by decide +kernel
theorem dX0_branchDistance_10 : decode cX0_branchDistance 10 = .ok (.iushr, 1) := by decide +kernel
theorem dX0_branchDistance_11 : decode cX0_branchDistance 11 = .ok (.iconst 1, 1) := by decide +kernel
theorem dX0_branchDistance_12 : decode cX0_branchDistance 12 = .ok (.iand, 1) := by decide +kernel
theorem dX0_branchDistance_13 : decode cX0_branchDistance 13 = .ok (.bipush 11, 2) := by decide +kernel
theorem dX0_branchDistance_15 : decode cX0_branchDistance 15 = .ok (.ishl, 1) := by decide +kernel
theorem dX0_branchDistance_16 : decode cX0_branchDistance 16 = .ok (.ior, 1) := by decide +kernel
theorem dX0_branchDistance_17 : decode cX0_branchDistance 17 = .ok (.iload_n 0, 1) := by decide +kernel
theorem dX0_branchDistance_18 : decode cX0_branchDistance 18 = .ok (.bipush 25, 2) := by decide +kernel
theorem dX0_branchDistance_20 : decode cX0_branchDistance 20 = .ok (.iushr, 1) := by decide +kernel
theorem dX0_branchDistance_21 : decode cX0_branchDistance 21 = .ok (.bipush 63, 2) := by decide +kernel
theorem dX0_branchDistance_23 : decode cX0_branchDistance 23 = .ok (.iand, 1) := by decide +kernel
theorem dX0_branchDistance_24 : decode cX0_branchDistance 24 = .ok (.iconst 5, 1) := by decide +kernel
theorem dX0_branchDistance_25 : decode cX0_branchDistance 25 = .ok (.ishl, 1) := by decide +kernel
theorem dX0_branchDistance_26 : decode cX0_branchDistance 26 = .ok (.ior, 1) := by decide +kernel
theorem dX0_branchDistance_27 : decode cX0_branchDistance 27 = .ok (.iload_n 0, 1) := by decide +kernel
theorem dX0_branchDistance_28 : decode cX0_branchDistance 28 = .ok (.bipush 8, 2) := by decide +kernel
theorem dX0_branchDistance_30 : decode cX0_branchDistance 30 = .ok (.iushr, 1) := by decide +kernel
theorem dX0_branchDistance_31 : decode cX0_branchDistance 31 = .ok (.bipush 15, 2) := by decide +kernel
theorem dX0_branchDistance_33 : decode cX0_branchDistance 33 = .ok (.iand, 1) := by decide +kernel
theorem dX0_branchDistance_34 : decode cX0_branchDistance 34 = .ok (.iconst 1, 1) := by decide +kernel
theorem dX0_branchDistance_35 : decode cX0_branchDistance 35 = .ok (.ishl, 1) := by decide +kernel
theorem dX0_branchDistance_36 : decode cX0_branchDistance 36 = .ok (.ior, 1) := by decide +kernel
theorem dX0_branchDistance_37 : decode cX0_branchDistance 37 = .ok (.ireturn, 1) := by decide +kernel
theorem dX0_jumpDistance_0 : decode cX0_jumpDistance 0 = .ok (.iload_n 0, 1) := by decide +kernel
theorem dX0_jumpDistance_1 : decode cX0_jumpDistance 1 = .ok (.bipush 31, 2) := by decide +kernel
theorem dX0_jumpDistance_3 : decode cX0_jumpDistance 3 = .ok (.ishr, 1) := by decide +kernel
theorem dX0_jumpDistance_4 : decode cX0_jumpDistance 4 = .ok (.bipush 20, 2) := by decide +kernel
theorem dX0_jumpDistance_6 : decode cX0_jumpDistance 6 = .ok (.ishl, 1) := by decide +kernel
theorem dX0_jumpDistance_7 : decode cX0_jumpDistance 7 = .ok (.iload_n 0, 1) := by decide +kernel
theorem dX0_jumpDistance_8 : decode cX0_jumpDistance 8 = .ok (.bipush 12, 2) := by decide +kernel
theorem dX0_jumpDistance_10 : decode cX0_jumpDistance 10 = .ok (.iushr, 1) := by decide +kernel
theorem dX0_jumpDistance_11 : decode cX0_jumpDistance 11 = .ok (.sipush 255, 3) := by decide +kernel
theorem dX0_jumpDistance_14 : decode cX0_jumpDistance 14 = .ok (.iand, 1) := by decide +kernel
theorem dX0_jumpDistance_15 : decode cX0_jumpDistance 15 = .ok (.bipush 12, 2) := by decide +kernel
theorem dX0_jumpDistance_17 : decode cX0_jumpDistance 17 = .ok (.ishl, 1) := by decide +kernel
theorem dX0_jumpDistance_18 : decode cX0_jumpDistance 18 = .ok (.ior, 1) := by decide +kernel
theorem dX0_jumpDistance_19 : decode cX0_jumpDistance 19 = .ok (.iload_n 0, 1) := by decide +kernel
theorem dX0_jumpDistance_20 : decode cX0_jumpDistance 20 = .ok (.bipush 20, 2) := by decide +kernel
theorem dX0_jumpDistance_22 : decode cX0_jumpDistance 22 = .ok (.iushr, 1) := by decide +kernel
theorem dX0_jumpDistance_23 : decode cX0_jumpDistance 23 = .ok (.iconst 1, 1) := by decide +kernel
theorem dX0_jumpDistance_24 : decode cX0_jumpDistance 24 = .ok (.iand, 1) := by decide +kernel
theorem dX0_jumpDistance_25 : decode cX0_jumpDistance 25 = .ok (.bipush 11, 2) := by decide +kernel
theorem dX0_jumpDistance_27 : decode cX0_jumpDistance 27 = .ok (.ishl, 1) := by decide +kernel
theorem dX0_jumpDistance_28 : decode cX0_jumpDistance 28 = .ok (.ior, 1) := by decide +kernel
theorem dX0_jumpDistance_29 : decode cX0_jumpDistance 29 = .ok (.iload_n 0, 1) := by decide +kernel
theorem dX0_jumpDistance_30 : decode cX0_jumpDistance 30 = .ok (.bipush 21, 2) := by decide +kernel
theorem dX0_jumpDistance_32 : decode cX0_jumpDistance 32 = .ok (.iushr, 1) := by decide +kernel
theorem dX0_jumpDistance_33 : decode cX0_jumpDistance 33 = .ok (.sipush 1023, 3) := by decide +kernel
theorem dX0_jumpDistance_36 : decode cX0_jumpDistance 36 = .ok (.iand, 1) := by decide +kernel
theorem dX0_jumpDistance_37 : decode cX0_jumpDistance 37 = .ok (.iconst 1, 1) := by decide +kernel
theorem dX0_jumpDistance_38 : decode cX0_jumpDistance 38 = .ok (.ishl, 1) := by decide +kernel
theorem dX0_jumpDistance_39 : decode cX0_jumpDistance 39 = .ok (.ior, 1) := by decide +kernel
theorem dX0_jumpDistance_40 : decode cX0_jumpDistance 40 = .ok (.ireturn, 1) := by decide +kernel
theorem dX0_perform_0 : decode cX0_perform 0 = .ok (.iload_n 1, 1) := by decide +kernel
theorem dX0_perform_1 : decode cX0_perform 1 = .ok (.bipush 127, 2) := by decide +kernel
theorem dX0_perform_3 : decode cX0_perform 3 = .ok (.iand, 1) := by decide +kernel
theorem dX0_perform_4 : decode cX0_perform 4 = .ok (.lookupswitch 230 #[(3, 180), (15, 204), (19, 192), (23, 110), (35, 186), (51, 198), (55, 100), (99, 174), (103, 140), (111, 125), (115, 224)], 100) := by decide +kernel
theorem dX0_perform_104 : decode cX0_perform 104 = .ok (.aload_n 0, 1) := by decide +kernel
theorem dX0_perform_105 : decode cX0_perform 105 = .ok (.iload_n 1, 1) := by decide +kernel
theorem dX0_perform_106 : decode cX0_perform 106 = .ok (.iload_n 1, 1) := by decide +kernel
theorem dX0_perform_107 : decode cX0_perform 107 = .ok (.invokestatic 119, 3) := by decide +kernel
theorem dX0_perform_110 : decode cX0_perform 110 = .ok (.invokevirtual 122, 3) := by decide +kernel
theorem dX0_perform_113 : decode cX0_perform 113 = .ok (.ireturn, 1) := by decide +kernel
theorem dX0_perform_114 : decode cX0_perform 114 = .ok (.aload_n 0, 1) := by decide +kernel
theorem dX0_perform_115 : decode cX0_perform 115 = .ok (.iload_n 1, 1) := by decide +kernel
theorem dX0_perform_116 : decode cX0_perform 116 = .ok (.aload_n 0, 1) := by decide +kernel
theorem dX0_perform_117 : decode cX0_perform 117 = .ok (.getfield 20, 3) := by decide +kernel
theorem dX0_perform_120 : decode cX0_perform 120 = .ok (.iload_n 1, 1) := by decide +kernel
theorem dX0_perform_121 : decode cX0_perform 121 = .ok (.invokestatic 119, 3) := by decide +kernel
theorem dX0_perform_124 : decode cX0_perform 124 = .ok (.iadd, 1) := by decide +kernel
theorem dX0_perform_125 : decode cX0_perform 125 = .ok (.invokevirtual 122, 3) := by decide +kernel
theorem dX0_perform_128 : decode cX0_perform 128 = .ok (.ireturn, 1) := by decide +kernel
theorem dX0_perform_129 : decode cX0_perform 129 = .ok (.aload_n 0, 1) := by decide +kernel
theorem dX0_perform_130 : decode cX0_perform 130 = .ok (.iload_n 1, 1) := by decide +kernel
theorem dX0_perform_131 : decode cX0_perform 131 = .ok (.aload_n 0, 1) := by decide +kernel
theorem dX0_perform_132 : decode cX0_perform 132 = .ok (.getfield 20, 3) := by decide +kernel
theorem dX0_perform_135 : decode cX0_perform 135 = .ok (.iload_n 1, 1) := by decide +kernel
theorem dX0_perform_136 : decode cX0_perform 136 = .ok (.invokestatic 125, 3) := by decide +kernel
theorem dX0_perform_139 : decode cX0_perform 139 = .ok (.iadd, 1) := by decide +kernel
theorem dX0_perform_140 : decode cX0_perform 140 = .ok (.invokevirtual 128, 3) := by decide +kernel
theorem dX0_perform_143 : decode cX0_perform 143 = .ok (.ireturn, 1) := by decide +kernel
theorem dX0_perform_144 : decode cX0_perform 144 = .ok (.iload_n 1, 1) := by decide +kernel
theorem dX0_perform_145 : decode cX0_perform 145 = .ok (.invokestatic 131, 3) := by decide +kernel
theorem dX0_perform_148 : decode cX0_perform 148 = .ok (.ifCond .ne 24, 3) := by decide +kernel
theorem dX0_perform_151 : decode cX0_perform 151 = .ok (.aload_n 0, 1) := by decide +kernel
theorem dX0_perform_152 : decode cX0_perform 152 = .ok (.iload_n 1, 1) := by decide +kernel
theorem dX0_perform_153 : decode cX0_perform 153 = .ok (.aload_n 0, 1) := by decide +kernel
theorem dX0_perform_154 : decode cX0_perform 154 = .ok (.iload_n 1, 1) := by decide +kernel
theorem dX0_perform_155 : decode cX0_perform 155 = .ok (.invokevirtual 134, 3) := by decide +kernel
theorem dX0_perform_158 : decode cX0_perform 158 = .ok (.iload_n 1, 1) := by decide +kernel
theorem dX0_perform_159 : decode cX0_perform 159 = .ok (.invokestatic 137, 3) := by decide +kernel
theorem dX0_perform_162 : decode cX0_perform 162 = .ok (.iadd, 1) := by decide +kernel
theorem dX0_perform_163 : decode cX0_perform 163 = .ok (.bipush (-2), 2) := by decide +kernel
theorem dX0_perform_165 : decode cX0_perform 165 = .ok (.iand, 1) := by decide +kernel
theorem dX0_perform_166 : decode cX0_perform 166 = .ok (.invokevirtual 128, 3) := by decide +kernel
theorem dX0_perform_169 : decode cX0_perform 169 = .ok (.goto 8, 3) := by decide +kernel
theorem dX0_perform_172 : decode cX0_perform 172 = .ok (.aload_n 0, 1) := by decide +kernel
theorem dX0_perform_173 : decode cX0_perform 173 = .ok (.iload_n 1, 1) := by decide +kernel
theorem dX0_perform_174 : decode cX0_perform 174 = .ok (.invokevirtual 140, 3) := by decide +kernel
theorem dX0_perform_177 : decode cX0_perform 177 = .ok (.ireturn, 1) := by decide +kernel
theorem dX0_perform_178 : decode cX0_perform 178 = .ok (.aload_n 0, 1) := by decide +kernel
theorem dX0_perform_179 : decode cX0_perform 179 = .ok (.iload_n 1, 1) := by decide +kernel
theorem dX0_perform_180 : decode cX0_perform 180 = .ok (.invokevirtual 143, 3) := by decide +kernel
theorem dX0_perform_183 : decode cX0_perform 183 = .ok (.ireturn, 1) := by decide +kernel
theorem dX0_perform_184 : decode cX0_perform 184 = .ok (.aload_n 0, 1) := by decide +kernel
theorem dX0_perform_185 : decode cX0_perform 185 = .ok (.iload_n 1, 1) := by decide +kernel
theorem dX0_perform_186 : decode cX0_perform 186 = .ok (.invokevirtual 146, 3) := by decide +kernel
theorem dX0_perform_189 : decode cX0_perform 189 = .ok (.ireturn, 1) := by decide +kernel
theorem dX0_perform_190 : decode cX0_perform 190 = .ok (.aload_n 0, 1) := by decide +kernel
theorem dX0_perform_191 : decode cX0_perform 191 = .ok (.iload_n 1, 1) := by decide +kernel
theorem dX0_perform_192 : decode cX0_perform 192 = .ok (.invokevirtual 149, 3) := by decide +kernel
theorem dX0_perform_195 : decode cX0_perform 195 = .ok (.ireturn, 1) := by decide +kernel
theorem dX0_perform_196 : decode cX0_perform 196 = .ok (.aload_n 0, 1) := by decide +kernel
theorem dX0_perform_197 : decode cX0_perform 197 = .ok (.iload_n 1, 1) := by decide +kernel
theorem dX0_perform_198 : decode cX0_perform 198 = .ok (.invokevirtual 152, 3) := by decide +kernel
theorem dX0_perform_201 : decode cX0_perform 201 = .ok (.ireturn, 1) := by decide +kernel
theorem dX0_perform_202 : decode cX0_perform 202 = .ok (.aload_n 0, 1) := by decide +kernel
theorem dX0_perform_203 : decode cX0_perform 203 = .ok (.iload_n 1, 1) := by decide +kernel
theorem dX0_perform_204 : decode cX0_perform 204 = .ok (.invokevirtual 155, 3) := by decide +kernel
theorem dX0_perform_207 : decode cX0_perform 207 = .ok (.ireturn, 1) := by decide +kernel
theorem dX0_perform_208 : decode cX0_perform 208 = .ok (.iload_n 1, 1) := by decide +kernel
theorem dX0_perform_209 : decode cX0_perform 209 = .ok (.invokestatic 131, 3) := by decide +kernel
theorem dX0_perform_212 : decode cX0_perform 212 = .ok (.ifCond .ne 10, 3) := by decide +kernel
theorem dX0_perform_215 : decode cX0_perform 215 = .ok (.aload_n 0, 1) := by decide +kernel
theorem dX0_perform_216 : decode cX0_perform 216 = .ok (.invokevirtual 115, 3) := by decide +kernel
theorem dX0_perform_219 : decode cX0_perform 219 = .ok (.goto 8, 3) := by decide +kernel
theorem dX0_perform_222 : decode cX0_perform 222 = .ok (.aload_n 0, 1) := by decide +kernel
theorem dX0_perform_223 : decode cX0_perform 223 = .ok (.iload_n 1, 1) := by decide +kernel
theorem dX0_perform_224 : decode cX0_perform 224 = .ok (.invokevirtual 140, 3) := by decide +kernel
theorem dX0_perform_227 : decode cX0_perform 227 = .ok (.ireturn, 1) := by decide +kernel
theorem dX0_perform_228 : decode cX0_perform 228 = .ok (.aload_n 0, 1) := by decide +kernel
theorem dX0_perform_229 : decode cX0_perform 229 = .ok (.iload_n 1, 1) := by decide +kernel
theorem dX0_perform_230 : decode cX0_perform 230 = .ok (.invokevirtual 158, 3) := by decide +kernel
theorem dX0_perform_233 : decode cX0_perform 233 = .ok (.ireturn, 1) := by decide +kernel
theorem dX0_perform_234 : decode cX0_perform 234 = .ok (.aload_n 0, 1) := by decide +kernel
theorem dX0_perform_235 : decode cX0_perform 235 = .ok (.iload_n 1, 1) := by decide +kernel
theorem dX0_perform_236 : decode cX0_perform 236 = .ok (.invokevirtual 140, 3) := by decide +kernel
theorem dX0_perform_239 : decode cX0_perform 239 = .ok (.ireturn, 1) := by decide +kernel
theorem dX0_jump_0 : decode cX0_jump 0 = .ok (.iload_n 2, 1) := by decide +kernel
theorem dX0_jump_1 : decode cX0_jump 1 = .ok (.iconst 3, 1) := by decide +kernel
theorem dX0_jump_2 : decode cX0_jump 2 = .ok (.iand, 1) := by decide +kernel
theorem dX0_jump_3 : decode cX0_jump 3 = .ok (.ifCond .eq 10, 3) := by decide +kernel
theorem dX0_jump_6 : decode cX0_jump 6 = .ok (.aload_n 0, 1) := by decide +kernel
theorem dX0_jump_7 : decode cX0_jump 7 = .ok (.iconst 0, 1) := by decide +kernel
theorem dX0_jump_8 : decode cX0_jump 8 = .ok (.iload_n 2, 1) := by decide +kernel
theorem dX0_jump_9 : decode cX0_jump 9 = .ok (.invokevirtual 96, 3) := by decide +kernel
theorem dX0_jump_12 : decode cX0_jump 12 = .ok (.ireturn, 1) := by decide +kernel
theorem dX0_jump_13 : decode cX0_jump 13 = .ok (.aload_n 0, 1) := by decide +kernel
theorem dX0_jump_14 : decode cX0_jump 14 = .ok (.iload_n 1, 1) := by decide +kernel
theorem dX0_jump_15 : decode cX0_jump 15 = .ok (.aload_n 0, 1) := by decide +kernel
theorem dX0_jump_16 : decode cX0_jump 16 = .ok (.getfield 20, 3) := by decide +kernel
theorem dX0_jump_19 : decode cX0_jump 19 = .ok (.iconst 4, 1) := by decide +kernel
theorem dX0_jump_20 : decode cX0_jump 20 = .ok (.iadd, 1) := by decide +kernel
theorem dX0_jump_21 : decode cX0_jump 21 = .ok (.invokevirtual 111, 3) := by decide +kernel
theorem dX0_jump_24 : decode cX0_jump 24 = .ok (.aload_n 0, 1) := by decide +kernel
theorem dX0_jump_25 : decode cX0_jump 25 = .ok (.iload_n 2, 1) := by decide +kernel
theorem dX0_jump_26 : decode cX0_jump 26 = .ok (.putfield 20, 3) := by decide +kernel
theorem dX0_jump_29 : decode cX0_jump 29 = .ok (.iconst 1, 1) := by decide +kernel
theorem dX0_jump_30 : decode cX0_jump 30 = .ok (.ireturn, 1) := by decide +kernel
theorem dX0_branch_0 : decode cX0_branch 0 = .ok (.iload_n 1, 1) := by decide +kernel
theorem dX0_branch_1 : decode cX0_branch 1 = .ok (.invokestatic 131, 3) := by decide +kernel
theorem dX0_branch_4 : decode cX0_branch 4 = .ok (.istore_n 2, 1) := by decide +kernel
theorem dX0_branch_5 : decode cX0_branch 5 = .ok (.iload_n 2, 1) := by decide +kernel
theorem dX0_branch_6 : decode cX0_branch 6 = .ok (.iconst 2, 1) := by decide +kernel
theorem dX0_branch_7 : decode cX0_branch 7 = .ok (.if_icmp .eq 8, 3) := by decide +kernel
theorem dX0_branch_10 : decode cX0_branch 10 = .ok (.iload_n 2, 1) := by decide +kernel
theorem dX0_branch_11 : decode cX0_branch 11 = .ok (.iconst 3, 1) := by decide +kernel
theorem dX0_branch_12 : decode cX0_branch 12 = .ok (.if_icmp .ne 9, 3) := by decide +kernel
theorem dX0_branch_15 : decode cX0_branch 15 = .ok (.aload_n 0, 1) := by decide +kernel
theorem dX0_branch_16 : decode cX0_branch 16 = .ok (.iload_n 1, 1) := by decide +kernel
theorem dX0_branch_17 : decode cX0_branch 17 = .ok (.invokevirtual 140, 3) := by decide +kernel
theorem dX0_branch_20 : decode cX0_branch 20 = .ok (.ireturn, 1) := by decide +kernel
theorem dX0_branch_21 : decode cX0_branch 21 = .ok (.iload_n 2, 1) := by decide +kernel
theorem dX0_branch_22 : decode cX0_branch 22 = .ok (.aload_n 0, 1) := by decide +kernel
theorem dX0_branch_23 : decode cX0_branch 23 = .ok (.iload_n 1, 1) := by decide +kernel
theorem dX0_branch_24 : decode cX0_branch 24 = .ok (.invokevirtual 134, 3) := by decide +kernel
theorem dX0_branch_27 : decode cX0_branch 27 = .ok (.aload_n 0, 1) := by decide +kernel
theorem dX0_branch_28 : decode cX0_branch 28 = .ok (.iload_n 1, 1) := by decide +kernel
theorem dX0_branch_29 : decode cX0_branch 29 = .ok (.invokevirtual 161, 3) := by decide +kernel
theorem dX0_branch_32 : decode cX0_branch 32 = .ok (.invokestatic 164, 3) := by decide +kernel
theorem dX0_branch_35 : decode cX0_branch 35 = .ok (.ifCond .ne 8, 3) := by decide +kernel
theorem dX0_branch_38 : decode cX0_branch 38 = .ok (.aload_n 0, 1) := by decide +kernel
theorem dX0_branch_39 : decode cX0_branch 39 = .ok (.invokevirtual 115, 3) := by decide +kernel
theorem dX0_branch_42 : decode cX0_branch 42 = .ok (.ireturn, 1) := by decide +kernel
theorem dX0_branch_43 : decode cX0_branch 43 = .ok (.aload_n 0, 1) := by decide +kernel
theorem dX0_branch_44 : decode cX0_branch 44 = .ok (.getfield 20, 3) := by decide +kernel
theorem dX0_branch_47 : decode cX0_branch 47 = .ok (.iload_n 1, 1) := by decide +kernel
theorem dX0_branch_48 : decode cX0_branch 48 = .ok (.invokestatic 168, 3) := by decide +kernel
theorem dX0_branch_51 : decode cX0_branch 51 = .ok (.iadd, 1) := by decide +kernel
theorem dX0_branch_52 : decode cX0_branch 52 = .ok (.istore_n 3, 1) := by decide +kernel
theorem dX0_branch_53 : decode cX0_branch 53 = .ok (.iload_n 3, 1) := by decide +kernel
theorem dX0_branch_54 : decode cX0_branch 54 = .ok (.iconst 3, 1) := by decide +kernel
theorem dX0_branch_55 : decode cX0_branch 55 = .ok (.iand, 1) := by decide +kernel
theorem dX0_branch_56 : decode cX0_branch 56 = .ok (.ifCond .eq 10, 3) := by decide +kernel
theorem dX0_branch_59 : decode cX0_branch 59 = .ok (.aload_n 0, 1) := by decide +kernel
theorem dX0_branch_60 : decode cX0_branch 60 = .ok (.iconst 0, 1) := by decide +kernel
theorem dX0_branch_61 : decode cX0_branch 61 = .ok (.iload_n 3, 1) := by decide +kernel
theorem dX0_branch_62 : decode cX0_branch 62 = .ok (.invokevirtual 96, 3) := by decide +kernel
theorem dX0_branch_65 : decode cX0_branch 65 = .ok (.ireturn, 1) := by decide +kernel
theorem dX0_branch_66 : decode cX0_branch 66 = .ok (.aload_n 0, 1) := by decide +kernel
theorem dX0_branch_67 : decode cX0_branch 67 = .ok (.iload_n 3, 1) := by decide +kernel
theorem dX0_branch_68 : decode cX0_branch 68 = .ok (.putfield 20, 3) := by decide +kernel
theorem dX0_branch_71 : decode cX0_branch 71 = .ok (.iconst 1, 1) := by decide +kernel
theorem dX0_branch_72 : decode cX0_branch 72 = .ok (.ireturn, 1) := by decide +kernel
theorem dX0_isTaken_0 : decode cX0_isTaken 0 = .ok (.iload_n 0, 1) := by decide +kernel
theorem dX0_isTaken_1 : decode cX0_isTaken 1 = .ok (.iconst 2, 1) := by decide +kernel
theorem dX0_isTaken_2 : decode cX0_isTaken 2 = .ok (.if_icmp .ge 17, 3) := by decide +kernel
theorem dX0_isTaken_5 : decode cX0_isTaken 5 = .ok (.iload_n 1, 1) := by decide +kernel
theorem dX0_isTaken_6 : decode cX0_isTaken 6 = .ok (.iload_n 2, 1) := by decide +kernel
theorem dX0_isTaken_7 : decode cX0_isTaken 7 = .ok (.if_icmp .ne 7, 3) := by decide +kernel
theorem dX0_isTaken_10 : decode cX0_isTaken 10 = .ok (.iconst 1, 1) := by decide +kernel
theorem dX0_isTaken_11 : decode cX0_isTaken 11 = .ok (.goto 4, 3) := by decide +kernel
theorem dX0_isTaken_14 : decode cX0_isTaken 14 = .ok (.iconst 0, 1) := by decide +kernel
theorem dX0_isTaken_15 : decode cX0_isTaken 15 = .ok (.istore_n 3, 1) := by decide +kernel
theorem dX0_isTaken_16 : decode cX0_isTaken 16 = .ok (.goto 28, 3) := by decide +kernel
theorem dX0_isTaken_19 : decode cX0_isTaken 19 = .ok (.iload_n 0, 1) := by decide +kernel
theorem dX0_isTaken_20 : decode cX0_isTaken 20 = .ok (.bipush 6, 2) := by decide +kernel
theorem dX0_isTaken_22 : decode cX0_isTaken 22 = .ok (.if_icmp .ge 16, 3) := by decide +kernel
theorem dX0_isTaken_25 : decode cX0_isTaken 25 = .ok (.iload_n 1, 1) := by decide +kernel
theorem dX0_isTaken_26 : decode cX0_isTaken 26 = .ok (.iload_n 2, 1) := by decide +kernel
theorem dX0_isTaken_27 : decode cX0_isTaken 27 = .ok (.if_icmp .ge 7, 3) := by decide +kernel
theorem dX0_isTaken_30 : decode cX0_isTaken 30 = .ok (.iconst 1, 1) := by decide +kernel
theorem dX0_isTaken_31 : decode cX0_isTaken 31 = .ok (.goto 12, 3) := by decide +kernel
theorem dX0_isTaken_34 : decode cX0_isTaken 34 = .ok (.iconst 0, 1) := by decide +kernel
theorem dX0_isTaken_35 : decode cX0_isTaken 35 = .ok (.goto 8, 3) := by decide +kernel
theorem dX0_isTaken_38 : decode cX0_isTaken 38 = .ok (.iload_n 1, 1) := by decide +kernel
theorem dX0_isTaken_39 : decode cX0_isTaken 39 = .ok (.iload_n 2, 1) := by decide +kernel
theorem dX0_isTaken_40 : decode cX0_isTaken 40 = .ok (.invokestatic 171, 3) := by decide +kernel
theorem dX0_isTaken_43 : decode cX0_isTaken 43 = .ok (.istore_n 3, 1) := by decide +kernel
theorem dX0_isTaken_44 : decode cX0_isTaken 44 = .ok (.iload_n 3, 1) := by decide +kernel
theorem dX0_isTaken_45 : decode cX0_isTaken 45 = .ok (.iload_n 0, 1) := by decide +kernel
theorem dX0_isTaken_46 : decode cX0_isTaken 46 = .ok (.iconst 1, 1) := by decide +kernel
theorem dX0_isTaken_47 : decode cX0_isTaken 47 = .ok (.iand, 1) := by decide +kernel
theorem dX0_isTaken_48 : decode cX0_isTaken 48 = .ok (.ifCond .ne 7, 3) := by decide +kernel
theorem dX0_isTaken_51 : decode cX0_isTaken 51 = .ok (.iconst 1, 1) := by decide +kernel
theorem dX0_isTaken_52 : decode cX0_isTaken 52 = .ok (.goto 4, 3) := by decide +kernel
theorem dX0_isTaken_55 : decode cX0_isTaken 55 = .ok (.iconst 0, 1) := by decide +kernel
theorem dX0_isTaken_56 : decode cX0_isTaken 56 = .ok (.if_icmp .ne 7, 3) := by decide +kernel
theorem dX0_isTaken_59 : decode cX0_isTaken 59 = .ok (.iconst 1, 1) := by decide +kernel
theorem dX0_isTaken_60 : decode cX0_isTaken 60 = .ok (.goto 4, 3) := by decide +kernel
theorem dX0_isTaken_63 : decode cX0_isTaken 63 = .ok (.iconst 0, 1) := by decide +kernel
theorem dX0_isTaken_64 : decode cX0_isTaken 64 = .ok (.ireturn, 1) := by decide +kernel
theorem dX0_isBelow_0 : decode cX0_isBelow 0 = .ok (.iload_n 0, 1) := by decide +kernel
theorem dX0_isBelow_1 : decode cX0_isBelow 1 = .ok (.i2l, 1) := by decide +kernel
theorem dX0_isBelow_2 : decode cX0_isBelow 2 = .ok (.ldc2_w 174, 3) := by decide +kernel
theorem dX0_isBelow_5 : decode cX0_isBelow 5 = .ok (.land, 1) := by decide +kernel
theorem dX0_isBelow_6 : decode cX0_isBelow 6 = .ok (.iload_n 1, 1) := by decide +kernel
theorem dX0_isBelow_7 : decode cX0_isBelow 7 = .ok (.i2l, 1) := by decide +kernel
theorem dX0_isBelow_8 : decode cX0_isBelow 8 = .ok (.ldc2_w 174, 3) := by decide +kernel
theorem dX0_isBelow_11 : decode cX0_isBelow 11 = .ok (.land, 1) := by decide +kernel
theorem dX0_isBelow_12 : decode cX0_isBelow 12 = .ok (.lcmp, 1) := by decide +kernel
theorem dX0_isBelow_13 : decode cX0_isBelow 13 = .ok (.ifCond .ge 7, 3) := by decide +kernel
theorem dX0_isBelow_16 : decode cX0_isBelow 16 = .ok (.iconst 1, 1) := by decide +kernel
theorem dX0_isBelow_17 : decode cX0_isBelow 17 = .ok (.goto 4, 3) := by decide +kernel
theorem dX0_isBelow_20 : decode cX0_isBelow 20 = .ok (.iconst 0, 1) := by decide +kernel
theorem dX0_isBelow_21 : decode cX0_isBelow 21 = .ok (.ireturn, 1) := by decide +kernel
theorem dX0_load_0 : decode cX0_load 0 = .ok (.iload_n 1, 1) := by decide +kernel
theorem dX0_load_1 : decode cX0_load 1 = .ok (.invokestatic 131, 3) := by decide +kernel
theorem dX0_load_4 : decode cX0_load 4 = .ok (.istore_n 2, 1) := by decide +kernel
theorem dX0_load_5 : decode cX0_load 5 = .ok (.iload_n 2, 1) := by decide +kernel
theorem dX0_load_6 : decode cX0_load 6 = .ok (.iconst 3, 1) := by decide +kernel
theorem dX0_load_7 : decode cX0_load 7 = .ok (.if_icmp .eq 8, 3) := by decide +kernel
theorem dX0_load_10 : decode cX0_load 10 = .ok (.iload_n 2, 1) := by decide +kernel
theorem dX0_load_11 : decode cX0_load 11 = .ok (.iconst 5, 1) := by decide +kernel
theorem dX0_load_12 : decode cX0_load 12 = .ok (.if_icmp .le 9, 3) := by decide +kernel
theorem dX0_load_15 : decode cX0_load 15 = .ok (.aload_n 0, 1) := by decide +kernel
theorem dX0_load_16 : decode cX0_load 16 = .ok (.iload_n 1, 1) := by decide +kernel
theorem dX0_load_17 : decode cX0_load 17 = .ok (.invokevirtual 140, 3) := by decide +kernel
theorem dX0_load_20 : decode cX0_load 20 = .ok (.ireturn, 1) := by decide +kernel
theorem dX0_load_21 : decode cX0_load 21 = .ok (.aload_n 0, 1) := by decide +kernel
theorem dX0_load_22 : decode cX0_load 22 = .ok (.iload_n 1, 1) := by decide +kernel
theorem dX0_load_23 : decode cX0_load 23 = .ok (.invokevirtual 134, 3) := by decide +kernel
theorem dX0_load_26 : decode cX0_load 26 = .ok (.iload_n 1, 1) := by decide +kernel
theorem dX0_load_27 : decode cX0_load 27 = .ok (.invokestatic 137, 3) := by decide +kernel
theorem dX0_load_30 : decode cX0_load 30 = .ok (.iadd, 1) := by decide +kernel
theorem dX0_load_31 : decode cX0_load 31 = .ok (.istore_n 3, 1) := by decide +kernel
theorem dX0_load_32 : decode cX0_load 32 = .ok (.aload_n 0, 1) := by decide +kernel
theorem dX0_load_33 : decode cX0_load 33 = .ok (.iload_n 3, 1) := by decide +kernel
theorem dX0_load_34 : decode cX0_load 34 = .ok (.iconst 1, 1) := by decide +kernel
theorem dX0_load_35 : decode cX0_load 35 = .ok (.iconst 1, 1) := by decide +kernel
theorem dX0_load_36 : decode cX0_load 36 = .ok (.iload_n 2, 1) := by decide +kernel
theorem dX0_load_37 : decode cX0_load 37 = .ok (.iconst 3, 1) := by decide +kernel
theorem dX0_load_38 : decode cX0_load 38 = .ok (.iand, 1) := by decide +kernel
theorem dX0_load_39 : decode cX0_load 39 = .ok (.ishl, 1) := by decide +kernel
theorem dX0_load_40 : decode cX0_load 40 = .ok (.invokevirtual 100, 3) := by decide +kernel
theorem dX0_load_43 : decode cX0_load 43 = .ok (.istore 4, 2) := by decide +kernel
theorem dX0_load_45 : decode cX0_load 45 = .ok (.iload 4, 2) := by decide +kernel
theorem dX0_load_47 : decode cX0_load 47 = .ok (.ifCond .ge 13, 3) := by decide +kernel
theorem dX0_load_50 : decode cX0_load 50 = .ok (.aload_n 0, 1) := by decide +kernel
theorem dX0_load_51 : decode cX0_load 51 = .ok (.iconst (-1), 1) := by decide +kernel
theorem dX0_load_52 : decode cX0_load 52 = .ok (.iload 4, 2) := by decide +kernel
theorem dX0_load_54 : decode cX0_load 54 = .ok (.isub, 1) := by decide +kernel
theorem dX0_load_55 : decode cX0_load 55 = .ok (.iload_n 3, 1) := by decide +kernel
theorem dX0_load_56 : decode cX0_load 56 = .ok (.invokevirtual 96, 3) := by decide +kernel
theorem dX0_load_59 : decode cX0_load 59 = .ok (.ireturn, 1) := by decide +kernel
theorem dX0_load_60 : decode cX0_load 60 = .ok (.aload_n 0, 1) := by decide +kernel
theorem dX0_load_61 : decode cX0_load 61 = .ok (.iload_n 1, 1) := by decide +kernel
theorem dX0_load_62 : decode cX0_load 62 = .ok (.iload_n 2, 1) := by decide +kernel
theorem dX0_load_63 : decode cX0_load 63 = .ok (.aload_n 0, 1) := by decide +kernel
theorem dX0_load_64 : decode cX0_load 64 = .ok (.getfield 10, 3) := by decide +kernel
theorem dX0_load_67 : decode cX0_load 67 = .ok (.iload 4, 2) := by decide +kernel
theorem dX0_load_69 : decode cX0_load 69 = .ok (.iconst 2, 1) := by decide +kernel
theorem dX0_load_70 : decode cX0_load 70 = .ok (.iushr, 1) := by decide +kernel
theorem dX0_load_71 : decode cX0_load 71 = .ok (.iaload, 1) := by decide +kernel
theorem dX0_load_72 : decode cX0_load 72 = .ok (.iload 4, 2) := by decide +kernel
theorem dX0_load_74 : decode cX0_load 74 = .ok (.iconst 3, 1) := by decide +kernel
theorem dX0_load_75 : decode cX0_load 75 = .ok (.iand, 1) := by decide +kernel
theorem dX0_load_76 : decode cX0_load 76 = .ok (.iconst 3, 1) := by decide +kernel
theorem dX0_load_77 : decode cX0_load 77 = .ok (.ishl, 1) := by decide +kernel
theorem dX0_load_78 : decode cX0_load 78 = .ok (.iushr, 1) := by decide +kernel
theorem dX0_load_79 : decode cX0_load 79 = .ok (.invokestatic 176, 3) := by decide +kernel
theorem dX0_load_82 : decode cX0_load 82 = .ok (.invokevirtual 122, 3) := by decide +kernel
theorem dX0_load_85 : decode cX0_load 85 = .ok (.ireturn, 1) := by decide +kernel
theorem dX0_extend_0 : decode cX0_extend 0 = .ok (.iload_n 0, 1) := by decide +kernel
theorem dX0_extend_1 : decode cX0_extend 1 = .ok (.tableswitch 66 0 5 #[39, 47, 66, 66, 55, 61], 39) := by decide +kernel
theorem dX0_extend_40 : decode cX0_extend 40 = .ok (.iload_n 1, 1) := by decide +kernel
theorem dX0_extend_41 : decode cX0_extend 41 = .ok (.bipush 24, 2) := by decide +kernel
theorem dX0_extend_43 : decode cX0_extend 43 = .ok (.ishl, 1) := by decide +kernel
theorem dX0_extend_44 : decode cX0_extend 44 = .ok (.bipush 24, 2) := by decide +kernel
theorem dX0_extend_46 : decode cX0_extend 46 = .ok (.ishr, 1) := by decide +kernel
theorem dX0_extend_47 : decode cX0_extend 47 = .ok (.ireturn, 1) := by decide +kernel
theorem dX0_extend_48 : decode cX0_extend 48 = .ok (.iload_n 1, 1) := by decide +kernel
theorem dX0_extend_49 : decode cX0_extend 49 = .ok (.bipush 16, 2) := by decide +kernel
theorem dX0_extend_51 : decode cX0_extend 51 = .ok (.ishl, 1) := by decide +kernel
theorem dX0_extend_52 : decode cX0_extend 52 = .ok (.bipush 16, 2) := by decide +kernel
theorem dX0_extend_54 : decode cX0_extend 54 = .ok (.ishr, 1) := by decide +kernel
theorem dX0_extend_55 : decode cX0_extend 55 = .ok (.ireturn, 1) := by decide +kernel
theorem dX0_extend_56 : decode cX0_extend 56 = .ok (.iload_n 1, 1) := by decide +kernel
theorem dX0_extend_57 : decode cX0_extend 57 = .ok (.sipush 255, 3) := by decide +kernel
theorem dX0_extend_60 : decode cX0_extend 60 = .ok (.iand, 1) := by decide +kernel
theorem dX0_extend_61 : decode cX0_extend 61 = .ok (.ireturn, 1) := by decide +kernel
theorem dX0_extend_62 : decode cX0_extend 62 = .ok (.iload_n 1, 1) := by decide +kernel
theorem dX0_extend_63 : decode cX0_extend 63 = .ok (.ldc 179, 2) := by decide +kernel
theorem dX0_extend_65 : decode cX0_extend 65 = .ok (.iand, 1) := by decide +kernel
theorem dX0_extend_66 : decode cX0_extend 66 = .ok (.ireturn, 1) := by decide +kernel
theorem dX0_extend_67 : decode cX0_extend 67 = .ok (.iload_n 1, 1) := by decide +kernel
theorem dX0_extend_68 : decode cX0_extend 68 = .ok (.ireturn, 1) := by decide +kernel
theorem dX0_store_0 : decode cX0_store 0 = .ok (.iload_n 1, 1) := by decide +kernel
theorem dX0_store_1 : decode cX0_store 1 = .ok (.invokestatic 131, 3) := by decide +kernel
theorem dX0_store_4 : decode cX0_store 4 = .ok (.istore_n 2, 1) := by decide +kernel
theorem dX0_store_5 : decode cX0_store 5 = .ok (.iload_n 2, 1) := by decide +kernel
theorem dX0_store_6 : decode cX0_store 6 = .ok (.iconst 2, 1) := by decide +kernel
theorem dX0_store_7 : decode cX0_store 7 = .ok (.if_icmp .le 9, 3) := by decide +kernel
theorem dX0_store_10 : decode cX0_store 10 = .ok (.aload_n 0, 1) := by decide +kernel
theorem dX0_store_11 : decode cX0_store 11 = .ok (.iload_n 1, 1) := by decide +kernel
theorem dX0_store_12 : decode cX0_store 12 = .ok (.invokevirtual 140, 3) := by decide +kernel
theorem dX0_store_15 : decode cX0_store 15 = .ok (.ireturn, 1) := by decide +kernel
theorem dX0_store_16 : decode cX0_store 16 = .ok (.aload_n 0, 1) := by decide +kernel
theorem dX0_store_17 : decode cX0_store 17 = .ok (.iload_n 1, 1) := by decide +kernel
theorem dX0_store_18 : decode cX0_store 18 = .ok (.invokevirtual 134, 3) := by decide +kernel
theorem dX0_store_21 : decode cX0_store 21 = .ok (.iload_n 1, 1) := by decide +kernel
theorem dX0_store_22 : decode cX0_store 22 = .ok (.invokestatic 180, 3) := by decide +kernel
theorem dX0_store_25 : decode cX0_store 25 = .ok (.iadd, 1) := by decide +kernel
theorem dX0_store_26 : decode cX0_store 26 = .ok (.istore_n 3, 1) := by decide +kernel
theorem dX0_store_27 : decode cX0_store 27 = .ok (.aload_n 0, 1) := by decide +kernel
theorem dX0_store_28 : decode cX0_store 28 = .ok (.iload_n 3, 1) := by decide +kernel
theorem dX0_store_29 : decode cX0_store 29 = .ok (.iconst 2, 1) := by decide +kernel
theorem dX0_store_30 : decode cX0_store 30 = .ok (.iconst 1, 1) := by decide +kernel
theorem dX0_store_31 : decode cX0_store 31 = .ok (.iload_n 2, 1) := by decide +kernel
theorem dX0_store_32 : decode cX0_store 32 = .ok (.ishl, 1) := by decide +kernel
theorem dX0_store_33 : decode cX0_store 33 = .ok (.invokevirtual 100, 3) := by decide +kernel
theorem dX0_store_36 : decode cX0_store 36 = .ok (.istore 4, 2) := by decide +kernel
theorem dX0_store_38 : decode cX0_store 38 = .ok (.iload 4, 2) := by decide +kernel
theorem dX0_store_40 : decode cX0_store 40 = .ok (.ifCond .ge 13, 3) := by decide +kernel
theorem dX0_store_43 : decode cX0_store 43 = .ok (.aload_n 0, 1) := by decide +kernel
theorem dX0_store_44 : decode cX0_store 44 = .ok (.iconst (-1), 1) := by decide +kernel
theorem dX0_store_45 : decode cX0_store 45 = .ok (.iload 4, 2) := by decide +kernel
theorem dX0_store_47 : decode cX0_store 47 = .ok (.isub, 1) := by decide +kernel
theorem dX0_store_48 : decode cX0_store 48 = .ok (.iload_n 3, 1) := by decide +kernel
theorem dX0_store_49 : decode cX0_store 49 = .ok (.invokevirtual 96, 3) := by decide +kernel
theorem dX0_store_52 : decode cX0_store 52 = .ok (.ireturn, 1) := by decide +kernel
theorem dX0_store_53 : decode cX0_store 53 = .ok (.iload 4, 2) := by decide +kernel
theorem dX0_store_55 : decode cX0_store 55 = .ok (.iconst 3, 1) := by decide +kernel
theorem dX0_store_56 : decode cX0_store 56 = .ok (.iand, 1) := by decide +kernel
theorem dX0_store_57 : decode cX0_store 57 = .ok (.iconst 3, 1) := by decide +kernel
theorem dX0_store_58 : decode cX0_store 58 = .ok (.ishl, 1) := by decide +kernel
theorem dX0_store_59 : decode cX0_store 59 = .ok (.istore 5, 2) := by decide +kernel
theorem dX0_store_61 : decode cX0_store 61 = .ok (.iload_n 2, 1) := by decide +kernel
theorem dX0_store_62 : decode cX0_store 62 = .ok (.invokestatic 183, 3) := by decide +kernel
theorem dX0_store_65 : decode cX0_store 65 = .ok (.iload 5, 2) := by decide +kernel
theorem dX0_store_67 : decode cX0_store 67 = .ok (.ishl, 1) := by decide +kernel
theorem dX0_store_68 : decode cX0_store 68 = .ok (.istore 6, 2) := by decide +kernel
theorem dX0_store_70 : decode cX0_store 70 = .ok (.aload_n 0, 1) := by decide +kernel
theorem dX0_store_71 : decode cX0_store 71 = .ok (.getfield 10, 3) := by decide +kernel
theorem dX0_store_74 : decode cX0_store 74 = .ok (.iload 4, 2) := by decide +kernel
theorem dX0_store_76 : decode cX0_store 76 = .ok (.iconst 2, 1) := by decide +kernel
theorem dX0_store_77 : decode cX0_store 77 = .ok (.iushr, 1) := by decide +kernel
theorem dX0_store_78 : decode cX0_store 78 = .ok (.aload_n 0, 1) := by decide +kernel
theorem dX0_store_79 : decode cX0_store 79 = .ok (.getfield 10, 3) := by decide +kernel
theorem dX0_store_82 : decode cX0_store 82 = .ok (.iload 4, 2) := by decide +kernel
theorem dX0_store_84 : decode cX0_store 84 = .ok (.iconst 2, 1) := by decide +kernel
theorem dX0_store_85 : decode cX0_store 85 = .ok (.iushr, 1) := by decide +kernel
theorem dX0_store_86 : decode cX0_store 86 = .ok (.iaload, 1) := by decide +kernel
theorem dX0_store_87 : decode cX0_store 87 = .ok (.iload 6, 2) := by decide +kernel
theorem dX0_store_89 : decode cX0_store 89 = .ok (.iconst (-1), 1) := by decide +kernel
theorem dX0_store_90 : decode cX0_store 90 = .ok (.ixor, 1) := by decide +kernel
theorem dX0_store_91 : decode cX0_store 91 = .ok (.iand, 1) := by decide +kernel
theorem dX0_store_92 : decode cX0_store 92 = .ok (.aload_n 0, 1) := by decide +kernel
theorem dX0_store_93 : decode cX0_store 93 = .ok (.iload_n 1, 1) := by decide +kernel
theorem dX0_store_94 : decode cX0_store 94 = .ok (.invokevirtual 161, 3) := by decide +kernel
theorem dX0_store_97 : decode cX0_store 97 = .ok (.iload 5, 2) := by decide +kernel
theorem dX0_store_99 : decode cX0_store 99 = .ok (.ishl, 1) := by decide +kernel
theorem dX0_store_100 : decode cX0_store 100 = .ok (.iload 6, 2) := by decide +kernel
theorem dX0_store_102 : decode cX0_store 102 = .ok (.iand, 1) := by decide +kernel
theorem dX0_store_103 : decode cX0_store 103 = .ok (.ior, 1) := by decide +kernel
theorem dX0_store_104 : decode cX0_store 104 = .ok (.iastore, 1) := by decide +kernel
theorem dX0_store_105 : decode cX0_store 105 = .ok (.aload_n 0, 1) := by decide +kernel
theorem dX0_store_106 : decode cX0_store 106 = .ok (.invokevirtual 115, 3) := by decide +kernel
theorem dX0_store_109 : decode cX0_store 109 = .ok (.ireturn, 1) := by decide +kernel
theorem dX0_maskOf_0 : decode cX0_maskOf 0 = .ok (.iload_n 0, 1) := by decide +kernel
theorem dX0_maskOf_1 : decode cX0_maskOf 1 = .ok (.ifCond .ne 7, 3) := by decide +kernel
theorem dX0_maskOf_4 : decode cX0_maskOf 4 = .ok (.sipush 255, 3) := by decide +kernel
theorem dX0_maskOf_7 : decode cX0_maskOf 7 = .ok (.ireturn, 1) := by decide +kernel
theorem dX0_maskOf_8 : decode cX0_maskOf 8 = .ok (.iload_n 0, 1) := by decide +kernel
theorem dX0_maskOf_9 : decode cX0_maskOf 9 = .ok (.iconst 1, 1) := by decide +kernel
theorem dX0_maskOf_10 : decode cX0_maskOf 10 = .ok (.if_icmp .ne 8, 3) := by decide +kernel
theorem dX0_maskOf_13 : decode cX0_maskOf 13 = .ok (.ldc 179, 2) := by decide +kernel
theorem dX0_maskOf_15 : decode cX0_maskOf 15 = .ok (.goto 4, 3) := by decide +kernel
theorem dX0_maskOf_18 : decode cX0_maskOf 18 = .ok (.iconst (-1), 1) := by decide +kernel
theorem dX0_maskOf_19 : decode cX0_maskOf 19 = .ok (.ireturn, 1) := by decide +kernel
theorem dX0_calculateWithNumber_0 : decode cX0_calculateWithNumber 0 = .ok (.iload_n 1, 1) := by decide +kernel
theorem dX0_calculateWithNumber_1 : decode cX0_calculateWithNumber 1 = .ok (.invokestatic 131, 3) := by decide +kernel
theorem dX0_calculateWithNumber_4 : decode cX0_calculateWithNumber 4 = .ok (.istore_n 2, 1) := by decide +kernel
theorem dX0_calculateWithNumber_5 : decode cX0_calculateWithNumber 5 = .ok (.iload_n 1, 1) := by decide +kernel
theorem dX0_calculateWithNumber_6 : decode cX0_calculateWithNumber 6 = .ok (.invokestatic 186, 3) := by decide +kernel
theorem dX0_calculateWithNumber_9 : decode cX0_calculateWithNumber 9 = .ok (.istore_n 3, 1) := by decide +kernel
theorem dX0_calculateWithNumber_10 : decode cX0_calculateWithNumber 10 = .ok (.iload_n 2, 1) := by decide +kernel
theorem dX0_calculateWithNumber_11 : decode cX0_calculateWithNumber 11 = .ok (.iconst 1, 1) := by decide +kernel
theorem dX0_calculateWithNumber_12 : decode cX0_calculateWithNumber 12 = .ok (.if_icmp .eq 8, 3) := by decide +kernel
theorem dX0_calculateWithNumber_15 : decode cX0_calculateWithNumber 15 = .ok (.iload_n 2, 1) := by decide +kernel
theorem dX0_calculateWithNumber_16 : decode cX0_calculateWithNumber 16 = .ok (.iconst 5, 1) := by decide +kernel
theorem dX0_calculateWithNumber_17 : decode cX0_calculateWithNumber 17 = .ok (.if_icmp .ne 7, 3) := by decide +kernel
theorem dX0_calculateWithNumber_20 : decode cX0_calculateWithNumber 20 = .ok (.iload_n 3, 1) := by decide +kernel
theorem dX0_calculateWithNumber_21 : decode cX0_calculateWithNumber 21 = .ok (.ifCond .ne 22, 3) := by decide +kernel
theorem dX0_calculateWithNumber_24 : decode cX0_calculateWithNumber 24 = .ok (.aload_n 0, 1) := by decide +kernel
theorem dX0_calculateWithNumber_25 : decode cX0_calculateWithNumber 25 = .ok (.iload_n 1, 1) := by decide +kernel
theorem dX0_calculateWithNumber_26 : decode cX0_calculateWithNumber 26 = .ok (.iload_n 2, 1) := by decide +kernel
theorem dX0_calculateWithNumber_27 : decode cX0_calculateWithNumber 27 = .ok (.aload_n 0, 1) := by decide +kernel
theorem dX0_calculateWithNumber_28 : decode cX0_calculateWithNumber 28 = .ok (.iload_n 1, 1) := by decide +kernel
theorem dX0_calculateWithNumber_29 : decode cX0_calculateWithNumber 29 = .ok (.invokevirtual 134, 3) := by decide +kernel
theorem dX0_calculateWithNumber_32 : decode cX0_calculateWithNumber 32 = .ok (.iload_n 1, 1) := by decide +kernel
theorem dX0_calculateWithNumber_33 : decode cX0_calculateWithNumber 33 = .ok (.invokestatic 137, 3) := by decide +kernel
theorem dX0_calculateWithNumber_36 : decode cX0_calculateWithNumber 36 = .ok (.invokestatic 189, 3) := by decide +kernel
theorem dX0_calculateWithNumber_39 : decode cX0_calculateWithNumber 39 = .ok (.invokevirtual 122, 3) := by decide +kernel
theorem dX0_calculateWithNumber_42 : decode cX0_calculateWithNumber 42 = .ok (.ireturn, 1) := by decide +kernel
theorem dX0_calculateWithNumber_43 : decode cX0_calculateWithNumber 43 = .ok (.iload_n 2, 1) := by decide +kernel
theorem dX0_calculateWithNumber_44 : decode cX0_calculateWithNumber 44 = .ok (.iconst 5, 1) := by decide +kernel
theorem dX0_calculateWithNumber_45 : decode cX0_calculateWithNumber 45 = .ok (.if_icmp .ne 28, 3) := by decide +kernel
theorem dX0_calculateWithNumber_48 : decode cX0_calculateWithNumber 48 = .ok (.iload_n 3, 1) := by decide +kernel
theorem dX0_calculateWithNumber_49 : decode cX0_calculateWithNumber 49 = .ok (.bipush 32, 2) := by decide +kernel
theorem dX0_calculateWithNumber_51 : decode cX0_calculateWithNumber 51 = .ok (.if_icmp .ne 22, 3) := by decide +kernel
theorem dX0_calculateWithNumber_54 : decode cX0_calculateWithNumber 54 = .ok (.aload_n 0, 1) := by decide +kernel
theorem dX0_calculateWithNumber_55 : decode cX0_calculateWithNumber 55 = .ok (.iload_n 1, 1) := by decide +kernel
theorem dX0_calculateWithNumber_56 : decode cX0_calculateWithNumber 56 = .ok (.aload_n 0, 1) := by decide +kernel
theorem dX0_calculateWithNumber_57 : decode cX0_calculateWithNumber 57 = .ok (.iload_n 1, 1) := by decide +kernel
theorem dX0_calculateWithNumber_58 : decode cX0_calculateWithNumber 58 = .ok (.invokevirtual 134, 3) := by decide +kernel
theorem dX0_calculateWithNumber_61 : decode cX0_calculateWithNumber 61 = .ok (.iload_n 1, 1) := by decide +kernel
theorem dX0_calculateWithNumber_62 : decode cX0_calculateWithNumber 62 = .ok (.bipush 20, 2) := by decide +kernel
theorem dX0_calculateWithNumber_64 : decode cX0_calculateWithNumber 64 = .ok (.iushr, 1) := by decide +kernel
theorem dX0_calculateWithNumber_65 : decode cX0_calculateWithNumber 65 = .ok (.bipush 31, 2) := by decide +kernel
theorem dX0_calculateWithNumber_67 : decode cX0_calculateWithNumber 67 = .ok (.iand, 1) := by decide +kernel
theorem dX0_calculateWithNumber_68 : decode cX0_calculateWithNumber 68 = .ok (.ishr, 1) := by decide +kernel
theorem dX0_calculateWithNumber_69 : decode cX0_calculateWithNumber 69 = .ok (.invokevirtual 122, 3) := by decide +kernel
theorem dX0_calculateWithNumber_72 : decode cX0_calculateWithNumber 72 = .ok (.ireturn, 1) := by decide +kernel
theorem dX0_calculateWithNumber_73 : decode cX0_calculateWithNumber 73 = .ok (.aload_n 0, 1) := by decide +kernel
theorem dX0_calculateWithNumber_74 : decode cX0_calculateWithNumber 74 = .ok (.iload_n 1, 1) := by decide +kernel
theorem dX0_calculateWithNumber_75 : decode cX0_calculateWithNumber 75 = .ok (.invokevirtual 140, 3) := by decide +kernel
theorem dX0_calculateWithNumber_78 : decode cX0_calculateWithNumber 78 = .ok (.ireturn, 1) := by decide +kernel
