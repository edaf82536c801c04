theorem dX0_init_0 : decode cX0_init 0 = .ok (.aload_n 0, 1) := by decide +kernel
theorem dX0_init_1 : decode cX0_init 1 = .ok (.invokespecial 3, 3) := by decide +kernel
theorem dX0_init_4 : decode cX0_init 4 = .ok (.aload_n 0, 1) := by decide +kernel
theorem dX0_init_5 : decode cX0_init 5 = .ok (.ldc 9, 2) := by decide +kernel
theorem dX0_init_7 : decode cX0_init 7 = .ok (.newarray .int, 2) := by decide +kernel
theorem dX0_init_9 : decode cX0_init 9 = .ok (.putfield 10, 3) := by decide +kernel
theorem dX0_init_12 : decode cX0_init 12 = .ok (.aload_n 0, 1) := by decide +kernel
theorem dX0_init_13 : decode cX0_init 13 = .ok (.bipush 32, 2) := by decide +kernel
theorem dX0_init_15 : decode cX0_init 15 = .ok (.newarray .int, 2) := by decide +kernel
theorem dX0_init_17 : decode cX0_init 17 = .ok (.putfield 14, 3) := by decide +kernel
theorem dX0_init_20 : decode cX0_init 20 = .ok (.aload_n 0, 1) := by decide +kernel
theorem dX0_init_21 : decode cX0_init 21 = .ok (.bipush 9, 2) := by decide +kernel
theorem dX0_init_23 : decode cX0_init 23 = .ok (.newarray .int, 2) := by decide +kernel
theorem dX0_init_25 : decode cX0_init 25 = .ok (.putfield 17, 3) := by decide +kernel
theorem dX0_init_28 : decode cX0_init 28 = .ok (.aload_n 0, 1) := by decide +kernel
theorem dX0_init_29 : decode cX0_init 29 = .ok (.getfield 17, 3) := by decide +kernel
theorem dX0_init_32 : decode cX0_init 32 = .ok (.bipush 7, 2) := by decide +kernel
theorem dX0_init_34 : decode cX0_init 34 = .ok (.iconst (-1), 1) := by decide +kernel
theorem dX0_init_35 : decode cX0_init 35 = .ok (.iastore, 1) := by decide +kernel
theorem dX0_init_36 : decode cX0_init 36 = .ok (.aload_n 0, 1) := by decide +kernel
theorem dX0_init_37 : decode cX0_init 37 = .ok (.getfield 17, 3) := by decide +kernel
theorem dX0_init_40 : decode cX0_init 40 = .ok (.bipush 8, 2) := by decide +kernel
theorem dX0_init_42 : decode cX0_init 42 = .ok (.iconst (-1), 1) := by decide +kernel
theorem dX0_init_43 : decode cX0_init 43 = .ok (.iastore, 1) := by decide +kernel
theorem dX0_init_44 : decode cX0_init 44 = .ok (.aload_n 0, 1) := by decide +kernel
theorem dX0_init_45 : decode cX0_init 45 = .ok (.iconst 0, 1) := by decide +kernel
theorem dX0_init_46 : decode cX0_init 46 = .ok (.putfield 20, 3) := by decide +kernel
theorem dX0_init_49 : decode cX0_init 49 = .ok (.aload_n 0, 1) := by decide +kernel
theorem dX0_init_50 : decode cX0_init 50 = .ok (.iconst 1, 1) := by decide +kernel
theorem dX0_init_51 : decode cX0_init 51 = .ok (.putfield 24, 3) := by decide +kernel
theorem dX0_init_54 : decode cX0_init 54 = .ok (.aload_n 0, 1) := by decide +kernel
theorem dX0_init_55 : decode cX0_init 55 = .ok (.iconst 0, 1) := by decide +kernel
theorem dX0_init_56 : decode cX0_init 56 = .ok (.putfield 27, 3) := by decide +kernel
theorem dX0_init_59 : decode cX0_init 59 = .ok (.return_, 1) := by decide +kernel
theorem dX0_run_0 : decode cX0_run 0 = .ok (.iload_n 1, 1) := by decide +kernel
theorem dX0_run_1 : decode cX0_run 1 = .ok (.ifCond .lt 10, 3) := by decide +kernel
theorem dX0_run_4 : decode cX0_run 4 = .ok (.iload_n 1, 1) := by decide +kernel
theorem dX0_run_5 : decode cX0_run 5 = .ok (.sipush 20000, 3) := by decide +kernel
theorem dX0_run_8 : decode cX0_run 8 = .ok (.if_icmp .le 13, 3) := by decide +kernel
theorem dX0_run_11 : decode cX0_run 11 = .ok (.new 31, 3) := by decide +kernel
theorem dX0_run_14 : decode cX0_run 14 = .ok (.dup, 1) := by decide +kernel
theorem dX0_run_15 : decode cX0_run 15 = .ok (.ldc 33, 2) := by decide +kernel
theorem dX0_run_17 : decode cX0_run 17 = .ok (.invokespecial 35, 3) := by decide +kernel
theorem dX0_run_20 : decode cX0_run 20 = .ok (.athrow, 1) := by decide +kernel
theorem dX0_run_21 : decode cX0_run 21 = .ok (.iload_n 1, 1) := by decide +kernel
theorem dX0_run_22 : decode cX0_run 22 = .ok (.ifCond .ne 5, 3) := by decide +kernel
theorem dX0_run_25 : decode cX0_run 25 = .ok (.iconst 0, 1) := by decide +kernel
theorem dX0_run_26 : decode cX0_run 26 = .ok (.ireturn, 1) := by decide +kernel
theorem dX0_run_27 : decode cX0_run 27 = .ok (.aload_n 0, 1) := by decide +kernel
theorem dX0_run_28 : decode cX0_run 28 = .ok (.iconst 0, 1) := by decide +kernel
theorem dX0_run_29 : decode cX0_run 29 = .ok (.putfield 27, 3) := by decide +kernel
theorem dX0_run_32 : decode cX0_run 32 = .ok (.iconst 0, 1) := by decide +kernel
theorem dX0_run_33 : decode cX0_run 33 = .ok (.istore_n 2, 1) := by decide +kernel
theorem dX0_run_34 : decode cX0_run 34 = .ok (.iload_n 2, 1) := by decide +kernel
theorem dX0_run_35 : decode cX0_run 35 = .ok (.iload_n 1, 1) := by decide +kernel
theorem dX0_run_36 : decode cX0_run 36 = .ok (.if_icmp .ge 20, 3) := by decide +kernel
theorem dX0_run_39 : decode cX0_run 39 = .ok (.aload_n 0, 1) := by decide +kernel
theorem dX0_run_40 : decode cX0_run 40 = .ok (.getfield 27, 3) := by decide +kernel
theorem dX0_run_43 : decode cX0_run 43 = .ok (.ifCond .ne 13, 3) := by decide +kernel
theorem dX0_run_46 : decode cX0_run 46 = .ok (.aload_n 0, 1) := by decide +kernel
theorem dX0_run_47 : decode cX0_run 47 = .ok (.invokevirtual 38, 3) := by decide +kernel
theorem dX0_run_50 : decode cX0_run 50 = .ok (.iinc 2 1, 3) := by decide +kernel
theorem dX0_run_53 : decode cX0_run 53 = .ok (.goto (-19), 3) := by decide +kernel
theorem dX0_run_56 : decode cX0_run 56 = .ok (.iload_n 2, 1) := by decide +kernel
theorem dX0_run_57 : decode cX0_run 57 = .ok (.ireturn, 1) := by decide +kernel
theorem dX0_called_0 : decode cX0_called 0 = .ok (.aload_n 0, 1) := by decide +kernel
theorem dX0_called_1 : decode cX0_called 1 = .ok (.getfield 27, 3) := by decide +kernel
theorem dX0_called_4 : decode cX0_called 4 = .ok (.ireturn, 1) := by decide +kernel
theorem dX0_peek_0 : decode cX0_peek 0 = .ok (.iload_n 1, 1) := by decide +kernel
theorem dX0_peek_1 : decode cX0_peek 1 = .ok (.invokestatic 41, 3) := by decide +kernel
theorem dX0_peek_4 : decode cX0_peek 4 = .ok (.ifCond .ne 13, 3) := by decide +kernel
theorem dX0_peek_7 : decode cX0_peek 7 = .ok (.new 45, 3) := by decide +kernel
theorem dX0_peek_10 : decode cX0_peek 10 = .ok (.dup, 1) := by decide +kernel
theorem dX0_peek_11 : decode cX0_peek 11 = .ok (.ldc 47, 2) := by decide +kernel
theorem dX0_peek_13 : decode cX0_peek 13 = .ok (.invokespecial 49, 3) := by decide +kernel
theorem dX0_peek_16 : decode cX0_peek 16 = .ok (.athrow, 1) := by decide +kernel
theorem dX0_peek_17 : decode cX0_peek 17 = .ok (.aload_n 0, 1) := by decide +kernel
theorem dX0_peek_18 : decode cX0_peek 18 = .ok (.getfield 10, 3) := by decide +kernel
theorem dX0_peek_21 : decode cX0_peek 21 = .ok (.iload_n 1, 1) := by decide +kernel
theorem dX0_peek_22 : decode cX0_peek 22 = .ok (.iconst 2, 1) := by decide +kernel
theorem dX0_peek_23 : decode cX0_peek 23 = .ok (.iushr, 1) := by decide +kernel
theorem dX0_peek_24 : decode cX0_peek 24 = .ok (.iaload, 1) := by decide +kernel
theorem dX0_peek_25 : decode cX0_peek 25 = .ok (.ireturn, 1) := by decide +kernel
theorem dX0_poke_0 : decode cX0_poke 0 = .ok (.iload_n 1, 1) := by decide +kernel
theorem dX0_poke_1 : decode cX0_poke 1 = .ok (.invokestatic 41, 3) := by decide +kernel
theorem dX0_poke_4 : decode cX0_poke 4 = .ok (.ifCond .ne 13, 3) := by decide +kernel
theorem dX0_poke_7 : decode cX0_poke 7 = .ok (.new 45, 3) := by decide +kernel
theorem dX0_poke_10 : decode cX0_poke 10 = .ok (.dup, 1) := by decide +kernel
theorem dX0_poke_11 : decode cX0_poke 11 = .ok (.ldc 47, 2) := by decide +kernel
theorem dX0_poke_13 : decode cX0_poke 13 = .ok (.invokespecial 49, 3) := by decide +kernel
theorem dX0_poke_16 : decode cX0_poke 16 = .ok (.athrow, 1) := by decide +kernel
theorem dX0_poke_17 : decode cX0_poke 17 = .ok (.aload_n 0, 1) := by decide +kernel
theorem dX0_poke_18 : decode cX0_poke 18 = .ok (.getfield 10, 3) := by decide +kernel
theorem dX0_poke_21 : decode cX0_poke 21 = .ok (.iload_n 1, 1) := by decide +kernel
theorem dX0_poke_22 : decode cX0_poke 22 = .ok (.iconst 2, 1) := by decide +kernel
theorem dX0_poke_23 : decode cX0_poke 23 = .ok (.iushr, 1) := by decide +kernel
theorem dX0_poke_24 : decode cX0_poke 24 = .ok (.iload_n 2, 1) := by decide +kernel
theorem dX0_poke_25 : decode cX0_poke 25 = .ok (.iastore, 1) := by decide +kernel
theorem dX0_poke_26 : decode cX0_poke 26 = .ok (.return_, 1) := by decide +kernel
theorem dX0_pokeFour_0 : decode cX0_pokeFour 0 = .ok (.iload_n 1, 1) := by decide +kernel
theorem dX0_pokeFour_1 : decode cX0_pokeFour 1 = .ok (.invokestatic 41, 3) := by decide +kernel
theorem dX0_pokeFour_4 : decode cX0_pokeFour 4 = .ok (.ifCond .eq 13, 3) := by decide +kernel
theorem dX0_pokeFour_7 : decode cX0_pokeFour 7 = .ok (.iload_n 1, 1) := by decide +kernel
theorem dX0_pokeFour_8 : decode cX0_pokeFour 8 = .ok (.bipush 12, 2) := by decide +kernel
theorem dX0_pokeFour_10 : decode cX0_pokeFour 10 = .ok (.iadd, 1) := by decide +kernel
theorem dX0_pokeFour_11 : decode cX0_pokeFour 11 = .ok (.invokestatic 41, 3) := by decide +kernel
theorem dX0_pokeFour_14 : decode cX0_pokeFour 14 = .ok (.ifCond .ne 13, 3) := by decide +kernel
theorem dX0_pokeFour_17 : decode cX0_pokeFour 17 = .ok (.new 45, 3) := by decide +kernel
theorem dX0_pokeFour_20 : decode cX0_pokeFour 20 = .ok (.dup, 1) := by decide +kernel
theorem dX0_pokeFour_21 : decode cX0_pokeFour 21 = .ok (.ldc 50, 2) := by decide +kernel
theorem dX0_pokeFour_23 : decode cX0_pokeFour 23 = .ok (.invokespecial 49, 3) := by decide +kernel
theorem dX0_pokeFour_26 : decode cX0_pokeFour 26 = .ok (.athrow, 1) := by decide +kernel
theorem dX0_pokeFour_27 : decode cX0_pokeFour 27 = .ok (.iload_n 1, 1) := by decide +kernel
theorem dX0_pokeFour_28 : decode cX0_pokeFour 28 = .ok (.iconst 2, 1) := by decide +kernel
theorem dX0_pokeFour_29 : decode cX0_pokeFour 29 = .ok (.iushr, 1) := by decide +kernel
theorem dX0_pokeFour_30 : decode cX0_pokeFour 30 = .ok (.istore 6, 2) := by decide +kernel
theorem dX0_pokeFour_32 : decode cX0_pokeFour 32 = .ok (.aload_n 0, 1) := by decide +kernel
theorem dX0_pokeFour_33 : decode cX0_pokeFour 33 = .ok (.getfield 10, 3) := by decide +kernel
theorem dX0_pokeFour_36 : decode cX0_pokeFour 36 = .ok (.iload 6, 2) := by decide +kernel
theorem dX0_pokeFour_38 : decode cX0_pokeFour 38 = .ok (.iload_n 2, 1) := by decide +kernel
theorem dX0_pokeFour_39 : decode cX0_pokeFour 39 = .ok (.iastore, 1) := by decide +kernel
theorem dX0_pokeFour_40 : decode cX0_pokeFour 40 = .ok (.aload_n 0, 1) := by decide +kernel
theorem dX0_pokeFour_41 : decode cX0_pokeFour 41 = .ok (.getfield 10, 3) := by decide +kernel
theorem dX0_pokeFour_44 : decode cX0_pokeFour 44 = .ok (.iload 6, 2) := by decide +kernel
theorem dX0_pokeFour_46 : decode cX0_pokeFour 46 = .ok (.iconst 1, 1) := by decide +kernel
theorem dX0_pokeFour_47 : decode cX0_pokeFour 47 = .ok (.iadd, 1) := by decide +kernel
theorem dX0_pokeFour_48 : decode cX0_pokeFour 48 = .ok (.iload_n 3, 1) := by decide +kernel
theorem dX0_pokeFour_49 : decode cX0_pokeFour 49 = .ok (.iastore, 1) := by decide +kernel
theorem dX0_pokeFour_50 : decode cX0_pokeFour 50 = .ok (.aload_n 0, 1) := by decide +kernel
theorem dX0_pokeFour_51 : decode cX0_pokeFour 51 = .ok (.getfield 10, 3) := by decide +kernel
theorem dX0_pokeFour_54 : decode cX0_pokeFour 54 = .ok (.iload 6, 2) := by decide +kernel
theorem dX0_pokeFour_56 : decode cX0_pokeFour 56 = .ok (.iconst 2, 1) := by decide +kernel
theorem dX0_pokeFour_57 : decode cX0_pokeFour 57 = .ok (.iadd, 1) := by decide +kernel
theorem dX0_pokeFour_58 : decode cX0_pokeFour 58 = .ok (.iload 4, 2) := by decide +kernel
theorem dX0_pokeFour_60 : decode cX0_pokeFour 60 = .ok (.iastore, 1) := by decide +kernel
theorem dX0_pokeFour_61 : decode cX0_pokeFour 61 = .ok (.aload_n 0, 1) := by decide +kernel
theorem dX0_pokeFour_62 : decode cX0_pokeFour 62 = .ok (.getfield 10, 3) := by decide +kernel
theorem dX0_pokeFour_65 : decode cX0_pokeFour 65 = .ok (.iload 6, 2) := by decide +kernel
theorem dX0_pokeFour_67 : decode cX0_pokeFour 67 = .ok (.iconst 3, 1) := by decide +kernel
theorem dX0_pokeFour_68 : decode cX0_pokeFour 68 = .ok (.iadd, 1) := by decide +kernel
theorem dX0_pokeFour_69 : decode cX0_pokeFour 69 = .ok (.iload 5, 2) := by decide +kernel
theorem dX0_pokeFour_71 : decode cX0_pokeFour 71 = .ok (.iastore, 1) := by decide +kernel
theorem dX0_pokeFour_72 : decode cX0_pokeFour 72 = .ok (.return_, 1) := by decide +kernel
theorem dX0_register_0 : decode cX0_register 0 = .ok (.iload_n 1, 1) := by decide +kernel
theorem dX0_register_1 : decode cX0_register 1 = .ok (.ifCond .lt 9, 3) := by decide +kernel
theorem dX0_register_4 : decode cX0_register 4 = .ok (.iload_n 1, 1) := by decide +kernel
theorem dX0_register_5 : decode cX0_register 5 = .ok (.bipush 33, 2) := by decide +kernel
theorem dX0_register_7 : decode cX0_register 7 = .ok (.if_icmp .le 13, 3) := by decide +kernel
theorem dX0_register_10 : decode cX0_register 10 = .ok (.new 45, 3) := by decide +kernel
theorem dX0_register_13 : decode cX0_register 13 = .ok (.dup, 1) := by decide +kernel
theorem dX0_register_14 : decode cX0_register 14 = .ok (.ldc 52, 2) := by decide +kernel
theorem dX0_register_16 : decode cX0_register 16 = .ok (.invokespecial 49, 3) := by decide +kernel
theorem dX0_register_19 : decode cX0_register 19 = .ok (.athrow, 1) := by decide +kernel
theorem dX0_register_20 : decode cX0_register 20 = .ok (.iload_n 1, 1) := by decide +kernel
theorem dX0_register_21 : decode cX0_register 21 = .ok (.bipush 32, 2) := by decide +kernel
theorem dX0_register_23 : decode cX0_register 23 = .ok (.if_icmp .ne 8, 3) := by decide +kernel
theorem dX0_register_26 : decode cX0_register 26 = .ok (.aload_n 0, 1) := by decide +kernel
theorem dX0_register_27 : decode cX0_register 27 = .ok (.getfield 20, 3) := by decide +kernel
theorem dX0_register_30 : decode cX0_register 30 = .ok (.ireturn, 1) := by decide +kernel
theorem dX0_register_31 : decode cX0_register 31 = .ok (.iload_n 1, 1) := by decide +kernel
theorem dX0_register_32 : decode cX0_register 32 = .ok (.bipush 33, 2) := by decide +kernel
theorem dX0_register_34 : decode cX0_register 34 = .ok (.if_icmp .ne 10, 3) := by decide +kernel
theorem dX0_register_37 : decode cX0_register 37 = .ok (.aload_n 0, 1) := by decide +kernel
theorem dX0_register_38 : decode cX0_register 38 = .ok (.getfield 24, 3) := by decide +kernel
theorem dX0_register_41 : decode cX0_register 41 = .ok (.goto 9, 3) := by decide +kernel
theorem dX0_register_44 : decode cX0_register 44 = .ok (.aload_n 0, 1) := by decide +kernel
theorem dX0_register_45 : decode cX0_register 45 = .ok (.getfield 14, 3) := by decide +kernel
theorem dX0_register_48 : decode cX0_register 48 = .ok (.iload_n 1, 1) := by decide +kernel
theorem dX0_register_49 : decode cX0_register 49 = .ok (.iaload, 1) := by decide +kernel
theorem dX0_register_50 : decode cX0_register 50 = .ok (.ireturn, 1) := by decide +kernel
theorem dX0_setRegister_0 : decode cX0_setRegister 0 = .ok (.iload_n 1, 1) := by decide +kernel
theorem dX0_setRegister_1 : decode cX0_setRegister 1 = .ok (.ifCond .lt 9, 3) := by decide +kernel
theorem dX0_setRegister_4 : decode cX0_setRegister 4 = .ok (.iload_n 1, 1) := by decide +kernel
theorem dX0_setRegister_5 : decode cX0_setRegister 5 = .ok (.bipush 33, 2) := by decide +kernel
theorem dX0_setRegister_7 : decode cX0_setRegister 7 = .ok (.if_icmp .le 13, 3) := by decide +kernel
theorem dX0_setRegister_10 : decode cX0_setRegister 10 = .ok (.new 45, 3) := by decide +kernel
theorem dX0_setRegister_13 : decode cX0_setRegister 13 = .ok (.dup, 1) := by decide +kernel
theorem dX0_setRegister_14 : decode cX0_setRegister 14 = .ok (.ldc 52, 2) := by decide +kernel
theorem dX0_setRegister_16 : decode cX0_setRegister 16 = .ok (.invokespecial 49, 3) := by decide +kernel
theorem dX0_setRegister_19 : decode cX0_setRegister 19 = .ok (.athrow, 1) := by decide +kernel
theorem dX0_setRegister_20 : decode cX0_setRegister 20 = .ok (.iload_n 1, 1) := by decide +kernel
theorem dX0_setRegister_21 : decode cX0_setRegister 21 = .ok (.bipush 32, 2) := by decide +kernel
theorem dX0_setRegister_23 : decode cX0_setRegister 23 = .ok (.if_icmp .ne 11, 3) := by decide +kernel
theorem dX0_setRegister_26 : decode cX0_setRegister 26 = .ok (.aload_n 0, 1) := by decide +kernel
theorem dX0_setRegister_27 : decode cX0_setRegister 27 = .ok (.iload_n 2, 1) := by decide +kernel
theorem dX0_setRegister_28 : decode cX0_setRegister 28 = .ok (.putfield 20, 3) := by decide +kernel
theorem dX0_setRegister_31 : decode cX0_setRegister 31 = .ok (.goto 30, 3) := by decide +kernel
theorem dX0_setRegister_34 : decode cX0_setRegister 34 = .ok (.iload_n 1, 1) := by decide +kernel
theorem dX0_setRegister_35 : decode cX0_setRegister 35 = .ok (.bipush 33, 2) := by decide +kernel
theorem dX0_setRegister_37 : decode cX0_setRegister 37 = .ok (.if_icmp .ne 13, 3) := by decide +kernel
theorem dX0_setRegister_40 : decode cX0_setRegister 40 = .ok (.aload_n 0, 1) := by decide +kernel
theorem dX0_setRegister_41 : decode cX0_setRegister 41 = .ok (.iload_n 2, 1) := by decide +kernel
theorem dX0_setRegister_42 : decode cX0_setRegister 42 = .ok (.iconst 1, 1) := by decide +kernel
theorem dX0_setRegister_43 : decode cX0_setRegister 43 = .ok (.iand, 1) := by decide +kernel
theorem dX0_setRegister_44 : decode cX0_setRegister 44 = .ok (.putfield 24, 3) := by decide +kernel
theorem dX0_setRegister_47 : decode cX0_setRegister 47 = .ok (.goto 14, 3) := by decide +kernel
theorem dX0_setRegister_50 : decode cX0_setRegister 50 = .ok (.iload_n 1, 1) := by decide +kernel
theorem dX0_setRegister_51 : decode cX0_setRegister 51 = .ok (.ifCond .eq 10, 3) := by decide +kernel
theorem dX0_setRegister_54 : decode cX0_setRegister 54 = .ok (.aload_n 0, 1) := by decide +kernel
theorem dX0_setRegister_55 : decode cX0_setRegister 55 = .ok (.getfield 14, 3) := by decide +kernel
theorem dX0_setRegister_58 : decode cX0_setRegister 58 = .ok (.iload_n 1, 1) := by decide +kernel
theorem dX0_setRegister_59 : decode cX0_setRegister 59 = .ok (.iload_n 2, 1) := by decide +kernel
theorem dX0_setRegister_60 : decode cX0_setRegister 60 = .ok (.iastore, 1) := by decide +kernel
theorem dX0_setRegister_61 : decode cX0_setRegister 61 = .ok (.return_, 1) := by decide +kernel
theorem dX0_control_0 : decode cX0_control 0 = .ok (.iload_n 1, 1) := by decide +kernel
theorem dX0_control_1 : decode cX0_control 1 = .ok (.invokestatic 54, 3) := by decide +kernel
theorem dX0_control_4 : decode cX0_control 4 = .ok (.istore_n 2, 1) := by decide +kernel
theorem dX0_control_5 : decode cX0_control 5 = .ok (.iload_n 2, 1) := by decide +kernel
theorem dX0_control_6 : decode cX0_control 6 = .ok (.ifCond .ge 13, 3) := by decide +kernel
theorem dX0_control_9 : decode cX0_control 9 = .ok (.new 58, 3) := by decide +kernel
theorem dX0_control_12 : decode cX0_control 12 = .ok (.dup, 1) := by decide +kernel
theorem dX0_control_13 : decode cX0_control 13 = .ok (.ldc 60, 2) := by decide +kernel
theorem dX0_control_15 : decode cX0_control 15 = .ok (.invokespecial 62, 3) := by decide +kernel
theorem dX0_control_18 : decode cX0_control 18 = .ok (.athrow, 1) := by decide +kernel
theorem dX0_control_19 : decode cX0_control 19 = .ok (.aload_n 0, 1) := by decide +kernel
theorem dX0_control_20 : decode cX0_control 20 = .ok (.getfield 17, 3) := by decide +kernel
theorem dX0_control_23 : decode cX0_control 23 = .ok (.iload_n 2, 1) := by decide +kernel
theorem dX0_control_24 : decode cX0_control 24 = .ok (.iaload, 1) := by decide +kernel
theorem dX0_control_25 : decode cX0_control 25 = .ok (.ireturn, 1) := by decide +kernel
theorem dX0_setControl_0 : decode cX0_setControl 0 = .ok (.iload_n 1, 1) := by decide +kernel
theorem dX0_setControl_1 : decode cX0_setControl 1 = .ok (.invokestatic 54, 3) := by decide +kernel
theorem dX0_setControl_4 : decode cX0_setControl 4 = .ok (.istore_n 3, 1) := by decide +kernel
theorem dX0_setControl_5 : decode cX0_setControl 5 = .ok (.iload_n 3, 1) := by decide +kernel
theorem dX0_setControl_6 : decode cX0_setControl 6 = .ok (.ifCond .ge 13, 3) := by decide +kernel
theorem dX0_setControl_9 : decode cX0_setControl 9 = .ok (.new 58, 3) := by decide +kernel
theorem dX0_setControl_12 : decode cX0_setControl 12 = .ok (.dup, 1) := by decide +kernel
theorem dX0_setControl_13 : decode cX0_setControl 13 = .ok (.ldc 60, 2) := by decide +kernel
theorem dX0_setControl_15 : decode cX0_setControl 15 = .ok (.invokespecial 62, 3) := by decide +kernel
theorem dX0_setControl_18 : decode cX0_setControl 18 = .ok (.athrow, 1) := by decide +kernel
theorem dX0_setControl_19 : decode cX0_setControl 19 = .ok (.aload_n 0, 1) := by decide +kernel
theorem dX0_setControl_20 : decode cX0_setControl 20 = .ok (.getfield 17, 3) := by decide +kernel
theorem dX0_setControl_23 : decode cX0_setControl 23 = .ok (.iload_n 3, 1) := by decide +kernel
theorem dX0_setControl_24 : decode cX0_setControl 24 = .ok (.iload_n 2, 1) := by decide +kernel
theorem dX0_setControl_25 : decode cX0_setControl 25 = .ok (.getstatic 63, 3) := by decide +kernel
theorem dX0_setControl_28 : decode cX0_setControl 28 = .ok (.iload_n 3, 1) := by decide +kernel
theorem dX0_setControl_29 : decode cX0_setControl 29 = .ok (.iaload, 1) := by decide +kernel
theorem dX0_setControl_30 : decode cX0_setControl 30 = .ok (.iand, 1) := by decide +kernel
theorem dX0_setControl_31 : decode cX0_setControl 31 = .ok (.iastore, 1) := by decide +kernel
theorem dX0_setControl_32 : decode cX0_setControl 32 = .ok (.return_, 1) := by decide +kernel
theorem dX0_translate_0 : decode cX0_translate 0 = .ok (.iload_n 2, 1) := by decide +kernel
theorem dX0_translate_1 : decode cX0_translate 1 = .ok (.ifCond .lt 8, 3) := by decide +kernel
theorem dX0_translate_4 : decode cX0_translate 4 = .ok (.iload_n 2, 1) := by decide +kernel
theorem dX0_translate_5 : decode cX0_translate 5 = .ok (.iconst 2, 1) := by decide +kernel
theorem dX0_translate_6 : decode cX0_translate 6 = .ok (.if_icmp .le 13, 3) := by decide +kernel
theorem dX0_translate_9 : decode cX0_translate 9 = .ok (.new 31, 3) := by decide +kernel
theorem dX0_translate_12 : decode cX0_translate 12 = .ok (.dup, 1) := by decide +kernel
theorem dX0_translate_13 : decode cX0_translate 13 = .ok (.ldc 66, 2) := by decide +kernel
theorem dX0_translate_15 : decode cX0_translate 15 = .ok (.invokespecial 35, 3) := by decide +kernel
theorem dX0_translate_18 : decode cX0_translate 18 = .ok (.athrow, 1) := by decide +kernel
theorem dX0_translate_19 : decode cX0_translate 19 = .ok (.aload_n 0, 1) := by decide +kernel
theorem dX0_translate_20 : decode cX0_translate 20 = .ok (.iload_n 1, 1) := by decide +kernel
theorem dX0_translate_21 : decode cX0_translate 21 = .ok (.iload_n 2, 1) := by decide +kernel
theorem dX0_translate_22 : decode cX0_translate 22 = .ok (.invokevirtual 68, 3) := by decide +kernel
theorem dX0_translate_25 : decode cX0_translate 25 = .ok (.ireturn, 1) := by decide +kernel
theorem dX0_isInMemory_0 : decode cX0_isInMemory 0 = .ok (.iload_n 0, 1) := by decide +kernel
theorem dX0_isInMemory_1 : decode cX0_isInMemory 1 = .ok (.ifCond .lt 13, 3) := by decide +kernel
theorem dX0_isInMemory_4 : decode cX0_isInMemory 4 = .ok (.iload_n 0, 1) := by decide +kernel
theorem dX0_isInMemory_5 : decode cX0_isInMemory 5 = .ok (.ldc 72, 2) := by decide +kernel
theorem dX0_isInMemory_7 : decode cX0_isInMemory 7 = .ok (.if_icmp .ge 7, 3) := by decide +kernel
theorem dX0_isInMemory_10 : decode cX0_isInMemory 10 = .ok (.iconst 1, 1) := by decide +kernel
theorem dX0_isInMemory_11 : decode cX0_isInMemory 11 = .ok (.goto 4, 3) := by decide +kernel
theorem dX0_isInMemory_14 : decode cX0_isInMemory 14 = .ok (.iconst 0, 1) := by decide +kernel
theorem dX0_isInMemory_15 : decode cX0_isInMemory 15 = .ok (.ireturn, 1) := by decide +kernel
theorem dX0_isWord_0 : decode cX0_isWord 0 = .ok (.iload_n 0, 1) := by decide +kernel
theorem dX0_isWord_1 : decode cX0_isWord 1 = .ok (.invokestatic 73, 3) := by decide +kernel
theorem dX0_isWord_4 : decode cX0_isWord 4 = .ok (.ifCond .eq 13, 3) := by decide +kernel
theorem dX0_isWord_7 : decode cX0_isWord 7 = .ok (.iload_n 0, 1) := by decide +kernel
theorem dX0_isWord_8 : decode cX0_isWord 8 = .ok (.iconst 3, 1) := by decide +kernel
theorem dX0_isWord_9 : decode cX0_isWord 9 = .ok (.iand, 1) := by decide +kernel
theorem dX0_isWord_10 : decode cX0_isWord 10 = .ok (.ifCond .ne 7, 3) := by decide +kernel
theorem dX0_isWord_13 : decode cX0_isWord 13 = .ok (.iconst 1, 1) := by decide +kernel
theorem dX0_isWord_14 : decode cX0_isWord 14 = .ok (.goto 4, 3) := by decide +kernel
theorem dX0_isWord_17 : decode cX0_isWord 17 = .ok (.iconst 0, 1) := by decide +kernel
theorem dX0_isWord_18 : decode cX0_isWord 18 = .ok (.ireturn, 1) := by decide +kernel
theorem dX0_locateAligned_0 : decode cX0_locateAligned 0 = .ok (.iload_n 1, 1) := by decide +kernel
theorem dX0_locateAligned_1 : decode cX0_locateAligned 1 = .ok (.iload_n 3, 1) := by decide +kernel
theorem dX0_locateAligned_2 : decode cX0_locateAligned 2 = .ok (.iconst 1, 1) := by decide +kernel
theorem dX0_locateAligned_3 : decode cX0_locateAligned 3 = .ok (.isub, 1) := by decide +kernel
theorem dX0_locateAligned_4 : decode cX0_locateAligned 4 = .ok (.iand, 1) := by decide +kernel
theorem dX0_locateAligned_5 : decode cX0_locateAligned 5 = .ok (.ifCond .eq 10, 3) := by decide +kernel
theorem dX0_locateAligned_8 : decode cX0_locateAligned 8 = .ok (.iconst (-1), 1) := by decide +kernel
theorem dX0_locateAligned_9 : decode cX0_locateAligned 9 = .ok (.iload_n 2, 1) := by decide +kernel
theorem dX0_locateAligned_10 : decode cX0_locateAligned 10 = .ok (.invokestatic 76, 3) := by decide +kernel
theorem dX0_locateAligned_13 : decode cX0_locateAligned 13 = .ok (.isub, 1) := by decide +kernel
theorem dX0_locateAligned_14 : decode cX0_locateAligned 14 = .ok (.ireturn, 1) := by decide +kernel
theorem dX0_locateAligned_15 : decode cX0_locateAligned 15 = .ok (.aload_n 0, 1) := by decide +kernel
theorem dX0_locateAligned_16 : decode cX0_locateAligned 16 = .ok (.iload_n 1, 1) := by decide +kernel
theorem dX0_locateAligned_17 : decode cX0_locateAligned 17 = .ok (.iload_n 2, 1) := by decide +kernel
theorem dX0_locateAligned_18 : decode cX0_locateAligned 18 = .ok (.invokevirtual 68, 3) := by decide +kernel
theorem dX0_locateAligned_21 : decode cX0_locateAligned 21 = .ok (.ireturn, 1) := by decide +kernel
theorem dX0_locate_0 : decode cX0_locate 0 = .ok (.iload_n 1, 1) := by decide +kernel
theorem dX0_locate_1 : decode cX0_locate 1 = .ok (.istore_n 3, 1) := by decide +kernel
theorem dX0_locate_2 : decode cX0_locate 2 = .ok (.aload_n 0, 1) := by decide +kernel
theorem dX0_locate_3 : decode cX0_locate 3 = .ok (.getfield 17, 3) := by decide +kernel
theorem dX0_locate_6 : decode cX0_locate 6 = .ok (.bipush 6, 2) := by decide +kernel
theorem dX0_locate_8 : decode cX0_locate 8 = .ok (.iaload, 1) := by decide +kernel
theorem dX0_locate_9 : decode cX0_locate 9 = .ok (.istore 4, 2) := by decide +kernel
theorem dX0_locate_11 : decode cX0_locate 11 = .ok (.iload 4, 2) := by decide +kernel
theorem dX0_locate_13 : decode cX0_locate 13 = .ok (.ifCond .ge 144, 3) := by decide +kernel
theorem dX0_locate_16 : decode cX0_locate 16 = .ok (.iload 4, 2) := by decide +kernel
theorem dX0_locate_18 : decode cX0_locate 18 = .ok (.bipush 12, 2) := by decide +kernel
theorem dX0_locate_20 : decode cX0_locate 20 = .ok (.ishl, 1) := by decide +kernel
theorem dX0_locate_21 : decode cX0_locate 21 = .ok (.iload_n 1, 1) := by decide +kernel
theorem dX0_locate_22 : decode cX0_locate 22 = .ok (.bipush 22, 2) := by decide +kernel
theorem dX0_locate_24 : decode cX0_locate 24 = .ok (.iushr, 1) := by decide +kernel
theorem dX0_locate_25 : decode cX0_locate 25 = .ok (.iconst 2, 1) := by decide +kernel
theorem dX0_locate_26 : decode cX0_locate 26 = .ok (.ishl, 1) := by decide +kernel
theorem dX0_locate_27 : decode cX0_locate 27 = .ok (.iadd, 1) := by decide +kernel
theorem dX0_locate_28 : decode cX0_locate 28 = .ok (.istore 5, 2) := by decide +kernel
theorem dX0_locate_30 : decode cX0_locate 30 = .ok (.iload 5, 2) := by decide +kernel
theorem dX0_locate_32 : decode cX0_locate 32 = .ok (.invokestatic 73, 3) := by decide +kernel
theorem dX0_locate_35 : decode cX0_locate 35 = .ok (.ifCond .ne 10, 3) := by decide +kernel
theorem dX0_locate_38 : decode cX0_locate 38 = .ok (.iconst (-1), 1) := by decide +kernel
theorem dX0_locate_39 : decode cX0_locate 39 = .ok (.iload_n 2, 1) := by decide +kernel
theorem dX0_locate_40 : decode cX0_locate 40 = .ok (.invokestatic 79, 3) := by decide +kernel
theorem dX0_locate_43 : decode cX0_locate 43 = .ok (.isub, 1) := by decide +kernel
theorem dX0_locate_44 : decode cX0_locate 44 = .ok (.ireturn, 1) := by decide +kernel
theorem dX0_locate_45 : decode cX0_locate 45 = .ok (.aload_n 0, 1) := by decide +kernel
theorem dX0_locate_46 : decode cX0_locate 46 = .ok (.getfield 10, 3) := by decide +kernel
theorem dX0_locate_49 : decode cX0_locate 49 = .ok (.iload 5, 2) := by decide +kernel
theorem dX0_locate_51 : decode cX0_locate 51 = .ok (.iconst 2, 1) := by decide +kernel
theorem dX0_locate_52 : decode cX0_locate 52 = .ok (.iushr, 1) := by decide +kernel
theorem dX0_locate_53 : decode cX0_locate 53 = .ok (.iaload, 1) := by decide +kernel
theorem dX0_locate_54 : decode cX0_locate 54 = .ok (.istore 6, 2) := by decide +kernel
theorem dX0_locate_56 : decode cX0_locate 56 = .ok (.ldc 82, 2) := by decide +kernel
theorem dX0_locate_58 : decode cX0_locate 58 = .ok (.istore 7, 2) := by decide +kernel
theorem dX0_locate_60 : decode cX0_locate 60 = .ok (.iload 6, 2) := by decide +kernel
theorem dX0_locate_62 : decode cX0_locate 62 = .ok (.bipush 15, 2) := by decide +kernel
theorem dX0_locate_64 : decode cX0_locate 64 = .ok (.iand, 1) := by decide +kernel
theorem dX0_locate_65 : decode cX0_locate 65 = .ok (.iconst 1, 1) := by decide +kernel
theorem dX0_locate_66 : decode cX0_locate 66 = .ok (.if_icmp .ne 52, 3) := by decide +kernel
theorem dX0_locate_69 : decode cX0_locate 69 = .ok (.iload 6, 2) := by decide +kernel
theorem dX0_locate_71 : decode cX0_locate 71 = .ok (.invokestatic 83, 3) := by decide +kernel
theorem dX0_locate_74 : decode cX0_locate 74 = .ok (.iload_n 1, 1) := by decide +kernel
theorem dX0_locate_75 : decode cX0_locate 75 = .ok (.bipush 12, 2) := by decide +kernel
theorem dX0_locate_77 : decode cX0_locate 77 = .ok (.iushr, 1) := by decide +kernel
theorem dX0_locate_78 : decode cX0_locate 78 = .ok (.sipush 1023, 3) := by decide +kernel
theorem dX0_locate_81 : decode cX0_locate 81 = .ok (.iand, 1) := by decide +kernel
theorem dX0_locate_82 : decode cX0_locate 82 = .ok (.iconst 2, 1) := by decide +kernel
theorem dX0_locate_83 : decode cX0_locate 83 = .ok (.ishl, 1) := by decide +kernel
theorem dX0_locate_84 : decode cX0_locate 84 = .ok (.iadd, 1) := by decide +kernel
theorem dX0_locate_85 : decode cX0_locate 85 = .ok (.istore 5, 2) := by decide +kernel
theorem dX0_locate_87 : decode cX0_locate 87 = .ok (.iload 5, 2) := by decide +kernel
theorem dX0_locate_89 : decode cX0_locate 89 = .ok (.invokestatic 73, 3) := by decide +kernel
theorem dX0_locate_92 : decode cX0_locate 92 = .ok (.ifCond .ne 10, 3) := by decide +kernel
theorem dX0_locate_95 : decode cX0_locate 95 = .ok (.iconst (-1), 1) := by decide +kernel
theorem dX0_locate_96 : decode cX0_locate 96 = .ok (.iload_n 2, 1) := by decide +kernel
theorem dX0_locate_97 : decode cX0_locate 97 = .ok (.invokestatic 79, 3) := by decide +kernel
theorem dX0_locate_100 : decode cX0_locate 100 = .ok (.isub, 1) := by decide +kernel
theorem dX0_locate_101 : decode cX0_locate 101 = .ok (.ireturn, 1) := by decide +kernel
theorem dX0_locate_102 : decode cX0_locate 102 = .ok (.aload_n 0, 1) := by decide +kernel
theorem dX0_locate_103 : decode cX0_locate 103 = .ok (.getfield 10, 3) := by decide +kernel
theorem dX0_locate_106 : decode cX0_locate 106 = .ok (.iload 5, 2) := by decide +kernel
theorem dX0_locate_108 : decode cX0_locate 108 = .ok (.iconst 2, 1) := by decide +kernel
theorem dX0_locate_109 : decode cX0_locate 109 = .ok (.iushr, 1) := by decide +kernel
theorem dX0_locate_110 : decode cX0_locate 110 = .ok (.iaload, 1) := by decide +kernel
theorem dX0_locate_111 : decode cX0_locate 111 = .ok (.istore 6, 2) := by decide +kernel
theorem dX0_locate_113 : decode cX0_locate 113 = .ok (.sipush 4095, 3) := by decide +kernel
theorem dX0_locate_116 : decode cX0_locate 116 = .ok (.istore 7, 2) := by decide +kernel
theorem dX0_locate_118 : decode cX0_locate 118 = .ok (.iload 6, 2) := by decide +kernel
theorem dX0_locate_120 : decode cX0_locate 120 = .ok (.invokestatic 83, 3) := by decide +kernel
theorem dX0_locate_123 : decode cX0_locate 123 = .ok (.iload 7, 2) := by decide +kernel
theorem dX0_locate_125 : decode cX0_locate 125 = .ok (.iand, 1) := by decide +kernel
theorem dX0_locate_126 : decode cX0_locate 126 = .ok (.ifCond .ne 13, 3) := by decide +kernel
theorem dX0_locate_129 : decode cX0_locate 129 = .ok (.aload_n 0, 1) := by decide +kernel
theorem dX0_locate_130 : decode cX0_locate 130 = .ok (.iload 6, 2) := by decide +kernel
theorem dX0_locate_132 : decode cX0_locate 132 = .ok (.iload_n 2, 1) := by decide +kernel
theorem dX0_locate_133 : decode cX0_locate 133 = .ok (.invokevirtual 86, 3) := by decide +kernel
theorem dX0_locate_136 : decode cX0_locate 136 = .ok (.ifCond .ne 10, 3) := by decide +kernel
theorem dX0_locate_139 : decode cX0_locate 139 = .ok (.iconst (-1), 1) := by decide +kernel
theorem dX0_locate_140 : decode cX0_locate 140 = .ok (.iload_n 2, 1) := by decide +kernel
theorem dX0_locate_141 : decode cX0_locate 141 = .ok (.invokestatic 90, 3) := by decide +kernel
theorem dX0_locate_144 : decode cX0_locate 144 = .ok (.isub, 1) := by decide +kernel
theorem dX0_locate_145 : decode cX0_locate 145 = .ok (.ireturn, 1) := by decide +kernel
theorem dX0_locate_146 : decode cX0_locate 146 = .ok (.iload 6, 2) := by decide +kernel
theorem dX0_locate_148 : decode cX0_locate 148 = .ok (.invokestatic 83, 3) := by decide +kernel
theorem dX0_locate_151 : decode cX0_locate 151 = .ok (.iload_n 1, 1) := by decide +kernel
theorem dX0_locate_152 : decode cX0_locate 152 = .ok (.iload 7, 2) := by decide +kernel
theorem dX0_locate_154 : decode cX0_locate 154 = .ok (.iand, 1) := by decide +kernel
theorem dX0_locate_155 : decode cX0_locate 155 = .ok (.iadd, 1) := by decide +kernel
theorem dX0_locate_156 : decode cX0_locate 156 = .ok (.istore_n 3, 1) := by decide +kernel
theorem dX0_locate_157 : decode cX0_locate 157 = .ok (.iload_n 3, 1) := by decide +kernel
theorem dX0_locate_158 : decode cX0_locate 158 = .ok (.invokestatic 73, 3) := by decide +kernel
theorem dX0_locate_161 : decode cX0_locate 161 = .ok (.ifCond .eq 7, 3) := by decide +kernel
theorem dX0_locate_164 : decode cX0_locate 164 = .ok (.iload_n 3, 1) := by decide +kernel
theorem dX0_locate_165 : decode cX0_locate 165 = .ok (.goto 9, 3) := by decide +kernel
theorem dX0_locate_168 : decode cX0_locate 168 = .ok (.iconst (-1), 1) := by decide +kernel
theorem dX0_locate_169 : decode cX0_locate 169 = .ok (.iload_n 2, 1) := by decide +kernel
theorem dX0_locate_170 : decode cX0_locate 170 = .ok (.invokestatic 79, 3) := by decide +kernel
theorem dX0_locate_173 : decode cX0_locate 173 = .ok (.isub, 1) := by decide +kernel
theorem dX0_locate_174 : decode cX0_locate 174 = .ok (.ireturn, 1) := by decide +kernel
theorem dX0_frameOf_0 : decode cX0_frameOf 0 = .ok (.iload_n 0, 1) := by decide +kernel
theorem dX0_frameOf_1 : decode cX0_frameOf 1 = .ok (.bipush 10, 2) := by decide +kernel
theorem dX0_frameOf_3 : decode cX0_frameOf 3 = .ok (.iushr, 1) := by decide +kernel
theorem dX0_frameOf_4 : decode cX0_frameOf 4 = .ok (.bipush 12, 2) := by decide +kernel
theorem dX0_frameOf_6 : decode cX0_frameOf 6 = .ok (.ishl, 1) := by decide +kernel
theorem dX0_frameOf_7 : decode cX0_frameOf 7 = .ok (.ireturn, 1) := by decide +kernel
theorem dX0_permits_0 : decode cX0_permits 0 = .ok (.bipush 65, 2) := by decide +kernel
theorem dX0_permits_2 : decode cX0_permits 2 = .ok (.istore_n 3, 1) := by decide +kernel
theorem dX0_permits_3 : decode cX0_permits 3 = .ok (.iload_n 2, 1) := by decide +kernel
theorem dX0_permits_4 : decode cX0_permits 4 = .ok (.ifCond .ne 11, 3) := by decide +kernel
theorem dX0_permits_7 : decode cX0_permits 7 = .ok (.iload_n 3, 1) := by decide +kernel
theorem dX0_permits_8 : decode cX0_permits 8 = .ok (.bipush 8, 2) := by decide +kernel
theorem dX0_permits_10 : decode cX0_permits 10 = .ok (.ior, 1) := by decide +kernel
theorem dX0_permits_11 : decode cX0_permits 11 = .ok (.istore_n 3, 1) := by decide +kernel
theorem dX0_permits_12 : decode cX0_permits 12 = .ok (.goto 21, 3) := by decide +kernel
theorem dX0_permits_15 : decode cX0_permits 15 = .ok (.iload_n 2, 1) := by decide +kernel
theorem dX0_permits_16 : decode cX0_permits 16 = .ok (.iconst 1, 1) := by decide +kernel
theorem dX0_permits_17 : decode cX0_permits 17 = .ok (.if_icmp .ne 10, 3) := by decide +kernel
theorem dX0_permits_20 : decode cX0_permits 20 = .ok (.iload_n 3, 1) := by decide +kernel
theorem dX0_permits_21 : decode cX0_permits 21 = .ok (.iconst 2, 1) := by decide +kernel
theorem dX0_permits_22 : decode cX0_permits 22 = .ok (.ior, 1) := by decide +kernel
theorem dX0_permits_23 : decode cX0_permits 23 = .ok (.istore_n 3, 1) := by decide +kernel
theorem dX0_permits_24 : decode cX0_permits 24 = .ok (.goto 9, 3) := by decide +kernel
theorem dX0_permits_27 : decode cX0_permits 27 = .ok (.iload_n 3, 1) := by decide +kernel
theorem dX0_permits_28 : decode cX0_permits 28 = .ok (.sipush 132, 3) := by decide +kernel
theorem dX0_permits_31 : decode cX0_permits 31 = .ok (.ior, 1) := by decide +kernel
theorem dX0_permits_32 : decode cX0_permits 32 = .ok (.istore_n 3, 1) := by decide +kernel
theorem dX0_permits_33 : decode cX0_permits 33 = .ok (.iload_n 1, 1) := by decide +kernel
theorem dX0_permits_34 : decode cX0_permits 34 = .ok (.bipush 6, 2) := by decide +kernel
theorem dX0_permits_36 : decode cX0_permits 36 = .ok (.iand, 1) := by decide +kernel
theorem dX0_permits_37 : decode cX0_permits 37 = .ok (.iconst 4, 1) := by decide +kernel
theorem dX0_permits_38 : decode cX0_permits 38 = .ok (.if_icmp .ne 7, 3) := by decide +kernel
theorem dX0_permits_41 : decode cX0_permits 41 = .ok (.iconst 1, 1) := by decide +kernel
theorem dX0_permits_42 : decode cX0_permits 42 = .ok (.goto 4, 3) := by decide +kernel
theorem dX0_permits_45 : decode cX0_permits 45 = .ok (.iconst 0, 1) := by decide +kernel
theorem dX0_permits_46 : decode cX0_permits 46 = .ok (.istore 4, 2) := by decide +kernel
theorem dX0_permits_48 : decode cX0_permits 48 = .ok (.iload 4, 2) := by decide +kernel
theorem dX0_permits_50 : decode cX0_permits 50 = .ok (.ifCond .ne 10, 3) := by decide +kernel
theorem dX0_permits_53 : decode cX0_permits 53 = .ok (.iload_n 1, 1) := by decide +kernel
theorem dX0_permits_54 : decode cX0_permits 54 = .ok (.iload_n 3, 1) := by decide +kernel
theorem dX0_permits_55 : decode cX0_permits 55 = .ok (.iand, 1) := by decide +kernel
theorem dX0_permits_56 : decode cX0_permits 56 = .ok (.iload_n 3, 1) := by decide +kernel
theorem dX0_permits_57 : decode cX0_permits 57 = .ok (.if_icmp .eq 5, 3) := by decide +kernel
theorem dX0_permits_60 : decode cX0_permits 60 = .ok (.iconst 0, 1) := by decide +kernel
theorem dX0_permits_61 : decode cX0_permits 61 = .ok (.ireturn, 1) := by decide +kernel
theorem dX0_permits_62 : decode cX0_permits 62 = .ok (.iload_n 1, 1) := by decide +kernel
theorem dX0_permits_63 : decode cX0_permits 63 = .ok (.bipush 16, 2) := by decide +kernel
theorem dX0_permits_65 : decode cX0_permits 65 = .ok (.iand, 1) := by decide +kernel
theorem dX0_permits_66 : decode cX0_permits 66 = .ok (.ifCond .eq 7, 3) := by decide +kernel
theorem dX0_permits_69 : decode cX0_permits 69 = .ok (.iconst 1, 1) := by decide +kernel
theorem dX0_permits_70 : decode cX0_permits 70 = .ok (.goto 4, 3) := by decide +kernel
theorem dX0_permits_73 : decode cX0_permits 73 = .ok (.iconst 0, 1) := by decide +kernel
theorem dX0_permits_74 : decode cX0_permits 74 = .ok (.istore 5, 2) := by decide +kernel
theorem dX0_permits_76 : decode cX0_permits 76 = .ok (.aload_n 0, 1) := by decide +kernel
theorem dX0_permits_77 : decode cX0_permits 77 = .ok (.getfield 24, 3) := by decide +kernel
theorem dX0_permits_80 : decode cX0_permits 80 = .ok (.ifCond .ne 6, 3) := by decide +kernel
theorem dX0_permits_83 : decode cX0_permits 83 = .ok (.iload 5, 2) := by decide +kernel
theorem dX0_permits_85 : decode cX0_permits 85 = .ok (.ireturn, 1) := by decide +kernel
theorem dX0_permits_86 : decode cX0_permits 86 = .ok (.iload 5, 2) := by decide +kernel
theorem dX0_permits_88 : decode cX0_permits 88 = .ok (.ifCond .eq 19, 3) := by decide +kernel
theorem dX0_permits_91 : decode cX0_permits 91 = .ok (.iload_n 2, 1) := by decide +kernel
theorem dX0_permits_92 : decode cX0_permits 92 = .ok (.ifCond .eq 19, 3) := by decide +kernel
theorem dX0_permits_95 : decode cX0_permits 95 = .ok (.aload_n 0, 1) := by decide +kernel
theorem dX0_permits_96 : decode cX0_permits 96 = .ok (.getfield 17, 3) := by decide +kernel
theorem dX0_permits_99 : decode cX0_permits 99 = .ok (.iconst 0, 1) := by decide +kernel
theorem dX0_permits_100 : decode cX0_permits 100 = .ok (.iaload, 1) := by decide +kernel
theorem dX0_permits_101 : decode cX0_permits 101 = .ok (.ldc 72, 2) := by decide +kernel
theorem dX0_permits_103 : decode cX0_permits 103 = .ok (.iand, 1) := by decide +kernel
theorem dX0_permits_104 : decode cX0_permits 104 = .ok (.ifCond .eq 7, 3) := by decide +kernel
theorem dX0_permits_107 : decode cX0_permits 107 = .ok (.iconst 1, 1) := by decide +kernel
theorem dX0_permits_108 : decode cX0_permits 108 = .ok (.goto 4, 3) := by decide +kernel
theorem dX0_permits_111 : decode cX0_permits 111 = .ok (.iconst 0, 1) := by decide +kernel
theorem dX0_permits_112 : decode cX0_permits 112 = .ok (.ireturn, 1) := by decide +kernel
theorem dX0_misalignedCause_0 : decode cX0_misalignedCause 0 = .ok (.iload_n 0, 1) := by decide +kernel
theorem dX0_misalignedCause_1 : decode cX0_misalignedCause 1 = .ok (.ifCond .ne 5, 3) := by decide +kernel
theorem dX0_misalignedCause_4 : decode cX0_misalignedCause 4 = .ok (.iconst 0, 1) := by decide +kernel
theorem dX0_misalignedCause_5 : decode cX0_misalignedCause 5 = .ok (.ireturn, 1) := by decide +kernel
theorem dX0_misalignedCause_6 : decode cX0_misalignedCause 6 = .ok (.iload_n 0, 1) := by decide +kernel
theorem dX0_misalignedCause_7 : decode cX0_misalignedCause 7 = .ok (.iconst 1, 1) := by decide +kernel
theorem dX0_misalignedCause_8 : decode cX0_misalignedCause 8 = .ok (.if_icmp .ne 7, 3) := by decide +kernel
theorem dX0_misalignedCause_11 : decode cX0_misalignedCause 11 = .ok (.iconst 4, 1) := by decide +kernel
theorem dX0_misalignedCause_12 : decode cX0_misalignedCause 12 = .ok (.goto 5, 3) := by decide +kernel
theorem dX0_misalignedCause_15 : decode cX0_misalignedCause 15 = .ok (.bipush 6, 2) := by decide +kernel
theorem dX0_misalignedCause_17 : decode cX0_misalignedCause 17 = .ok (.ireturn, 1) := by decide +kernel
theorem dX0_accessCause_0 : decode cX0_accessCause 0 = .ok (.iload_n 0, 1) := by decide +kernel
theorem dX0_accessCause_1 : decode cX0_accessCause 1 = .ok (.ifCond .ne 5, 3) := by decide +kernel
theorem dX0_accessCause_4 : decode cX0_accessCause 4 = .ok (.iconst 1, 1) := by decide +kernel
theorem dX0_accessCause_5 : decode cX0_accessCause 5 = .ok (.ireturn, 1) := by decide +kernel
theorem dX0_accessCause_6 : decode cX0_accessCause 6 = .ok (.iload_n 0, 1) := by decide +kernel
theorem dX0_accessCause_7 : decode cX0_accessCause 7 = .ok (.iconst 1, 1) := by decide +kernel
theorem dX0_accessCause_8 : decode cX0_accessCause 8 = .ok (.if_icmp .ne 7, 3) := by decide +kernel
theorem dX0_accessCause_11 : decode cX0_accessCause 11 = .ok (.iconst 5, 1) := by decide +kernel
theorem dX0_accessCause_12 : decode cX0_accessCause 12 = .ok (.goto 5, 3) := by decide +kernel
theorem dX0_accessCause_15 : decode cX0_accessCause 15 = .ok (.bipush 7, 2) := by decide +kernel
theorem dX0_accessCause_17 : decode cX0_accessCause 17 = .ok (.ireturn, 1) := by decide +kernel
theorem dX0_pageCause_0 : decode cX0_pageCause 0 = .ok (.iload_n 0, 1) := by decide +kernel
theorem dX0_pageCause_1 : decode cX0_pageCause 1 = .ok (.ifCond .ne 6, 3) := by decide +kernel
theorem dX0_pageCause_4 : decode cX0_pageCause 4 = .ok (.bipush 12, 2) := by decide +kernel
theorem dX0_pageCause_6 : decode cX0_pageCause 6 = .ok (.ireturn, 1) := by decide +kernel
theorem dX0_pageCause_7 : decode cX0_pageCause 7 = .ok (.iload_n 0, 1) := by decide +kernel
theorem dX0_pageCause_8 : decode cX0_pageCause 8 = .ok (.iconst 1, 1) := by decide +kernel
theorem dX0_pageCause_9 : decode cX0_pageCause 9 = .ok (.if_icmp .ne 8, 3) := by decide +kernel
theorem dX0_pageCause_12 : decode cX0_pageCause 12 = .ok (.bipush 13, 2) := by decide +kernel
theorem dX0_pageCause_14 : decode cX0_pageCause 14 = .ok (.goto 5, 3) := by decide +kernel
theorem dX0_pageCause_17 : decode cX0_pageCause 17 = .ok (.bipush 15, 2) := by decide +kernel
theorem dX0_pageCause_19 : decode cX0_pageCause 19 = .ok (.ireturn, 1) := by decide +kernel
theorem dX0_slotOf_0 : decode cX0_slotOf 0 = .ok (.iconst 0, 1) := by decide +kernel
theorem dX0_slotOf_1 : decode cX0_slotOf 1 = .ok (.istore_n 1, 1) := by decide +kernel
theorem dX0_slotOf_2 : decode cX0_slotOf 2 = .ok (.iload_n 1, 1) := by decide +kernel
theorem dX0_slotOf_3 : decode cX0_slotOf 3 = .ok (.bipush 9, 2) := by decide +kernel
theorem dX0_slotOf_5 : decode cX0_slotOf 5 = .ok (.if_icmp .ge 20, 3) := by decide +kernel
theorem dX0_slotOf_8 : decode cX0_slotOf 8 = .ok (.getstatic 93, 3) := by decide +kernel
theorem dX0_slotOf_11 : decode cX0_slotOf 11 = .ok (.iload_n 1, 1) := by decide +kernel
theorem dX0_slotOf_12 : decode cX0_slotOf 12 = .ok (.iaload, 1) := by decide +kernel
theorem dX0_slotOf_13 : decode cX0_slotOf 13 = .ok (.iload_n 0, 1) := by decide +kernel
theorem dX0_slotOf_14 : decode cX0_slotOf 14 = .ok (.if_icmp .ne 5, 3) := by decide +kernel
theorem dX0_slotOf_17 : decode cX0_slotOf 17 = .ok (.iload_n 1, 1) := by decide +kernel
theorem dX0_slotOf_18 : decode cX0_slotOf 18 = .ok (.ireturn, 1) := by decide +kernel
theorem dX0_slotOf_19 : decode cX0_slotOf 19 = .ok (.iinc 1 1, 3) := by decide +kernel
theorem dX0_slotOf_22 : decode cX0_slotOf 22 = .ok (.goto (-20), 3) := by decide +kernel
theorem dX0_slotOf_25 : decode cX0_slotOf 25 = .ok (.iconst (-1), 1) := by decide +kernel
theorem dX0_slotOf_26 : decode cX0_slotOf 26 = .ok (.ireturn, 1) := by decide +kernel
theorem dX0_step_0 : decode cX0_step 0 = .ok (.aload_n 0, 1) := by decide +kernel
theorem dX0_step_1 : decode cX0_step 1 = .ok (.getfield 24, 3) := by decide +kernel
theorem dX0_step_4 : decode cX0_step 4 = .ok (.ifCond .ne 7, 3) := by decide +kernel
theorem dX0_step_7 : decode cX0_step 7 = .ok (.iconst 1, 1) := by decide +kernel
theorem dX0_step_8 : decode cX0_step 8 = .ok (.goto 4, 3) := by decide +kernel
theorem dX0_step_11 : decode cX0_step 11 = .ok (.iconst 0, 1) := by decide +kernel
theorem dX0_step_12 : decode cX0_step 12 = .ok (.istore_n 1, 1) := by decide +kernel
theorem dX0_step_13 : decode cX0_step 13 = .ok (.iload_n 1, 1) := by decide +kernel
theorem dX0_step_14 : decode cX0_step 14 = .ok (.ifCond .eq 22, 3) := by decide +kernel
theorem dX0_step_17 : decode cX0_step 17 = .ok (.aload_n 0, 1) := by decide +kernel
theorem dX0_step_18 : decode cX0_step 18 = .ok (.getfield 17, 3) := by decide +kernel
theorem dX0_step_21 : decode cX0_step 21 = .ok (.bipush 8, 2) := by decide +kernel
theorem dX0_step_23 : decode cX0_step 23 = .ok (.iaload, 1) := by decide +kernel
theorem dX0_step_24 : decode cX0_step 24 = .ok (.ifCond .ne 12, 3) := by decide +kernel
theorem dX0_step_27 : decode cX0_step 27 = .ok (.aload_n 0, 1) := by decide +kernel
theorem dX0_step_28 : decode cX0_step 28 = .ok (.bipush 24, 2) := by decide +kernel
theorem dX0_step_30 : decode cX0_step 30 = .ok (.iconst 0, 1) := by decide +kernel
theorem dX0_step_31 : decode cX0_step 31 = .ok (.invokevirtual 96, 3) := by decide +kernel
theorem dX0_step_34 : decode cX0_step 34 = .ok (.pop, 1) := by decide +kernel
theorem dX0_step_35 : decode cX0_step 35 = .ok (.return_, 1) := by decide +kernel
theorem dX0_step_36 : decode cX0_step 36 = .ok (.iload_n 1, 1) := by decide +kernel
theorem dX0_step_37 : decode cX0_step 37 = .ok (.ifCond .eq 22, 3) := by decide +kernel
theorem dX0_step_40 : decode cX0_step 40 = .ok (.aload_n 0, 1) := by decide +kernel
theorem dX0_step_41 : decode cX0_step 41 = .ok (.getfield 17, 3) := by decide +kernel
theorem dX0_step_44 : decode cX0_step 44 = .ok (.bipush 7, 2) := by decide +kernel
theorem dX0_step_46 : decode cX0_step 46 = .ok (.iaload, 1) := by decide +kernel
theorem dX0_step_47 : decode cX0_step 47 = .ok (.ifCond .ne 12, 3) := by decide +kernel
theorem dX0_step_50 : decode cX0_step 50 = .ok (.aload_n 0, 1) := by decide +kernel
theorem dX0_step_51 : decode cX0_step 51 = .ok (.ldc 99, 2) := by decide +kernel
theorem dX0_step_53 : decode cX0_step 53 = .ok (.iconst 0, 1) := by decide +kernel
theorem dX0_step_54 : decode cX0_step 54 = .ok (.invokevirtual 96, 3) := by decide +kernel
theorem dX0_step_57 : decode cX0_step 57 = .ok (.pop, 1) := by decide +kernel
theorem dX0_step_58 : decode cX0_step 58 = .ok (.return_, 1) := by decide +kernel
theorem dX0_step_59 : decode cX0_step 59 = .ok (.aload_n 0, 1) := by decide +kernel
theorem dX0_step_60 : decode cX0_step 60 = .ok (.aload_n 0, 1) := by decide +kernel
theorem dX0_step_61 : decode cX0_step 61 = .ok (.getfield 20, 3) := by decide +kernel
theorem dX0_step_64 : decode cX0_step 64 = .ok (.iconst 0, 1) := by decide +kernel
theorem dX0_step_65 : decode cX0_step 65 = .ok (.iconst 4, 1) := by decide +kernel
theorem dX0_step_66 : decode cX0_step 66 = .ok (.invokevirtual 100, 3) := by decide +kernel
theorem dX0_step_69 : decode cX0_step 69 = .ok (.istore_n 2, 1) := by decide +kernel
theorem dX0_step_70 : decode cX0_step 70 = .ok (.iload_n 2, 1) := by decide +kernel
theorem dX0_step_71 : decode cX0_step 71 = .ok (.ifCond .ge 16, 3) := by decide +kernel
theorem dX0_step_74 : decode cX0_step 74 = .ok (.aload_n 0, 1) := by decide +kernel
theorem dX0_step_75 : decode cX0_step 75 = .ok (.iconst (-1), 1) := by decide +kernel
theorem dX0_step_76 : decode cX0_step 76 = .ok (.iload_n 2, 1) := by decide +kernel
theorem dX0_step_77 : decode cX0_step 77 = .ok (.isub, 1) := by decide +kernel
theorem dX0_step_78 : decode cX0_step 78 = .ok (.aload_n 0, 1) := by decide +kernel
theorem dX0_step_79 : decode cX0_step 79 = .ok (.getfield 20, 3) := by decide +kernel
theorem dX0_step_82 : decode cX0_step 82 = .ok (.invokevirtual 96, 3) := by decide +kernel
theorem dX0_step_85 : decode cX0_step 85 = .ok (.pop, 1) := by decide +kernel
theorem dX0_step_86 : decode cX0_step 86 = .ok (.return_, 1) := by decide +kernel
theorem dX0_step_87 : decode cX0_step 87 = .ok (.aload_n 0, 1) := by decide +kernel
theorem dX0_step_88 : decode cX0_step 88 = .ok (.aload_n 0, 1) := by decide +kernel
theorem dX0_step_89 : decode cX0_step 89 = .ok (.getfield 10, 3) := by decide +kernel
theorem dX0_step_92 : decode cX0_step 92 = .ok (.iload_n 2, 1) := by decide +kernel
theorem dX0_step_93 : decode cX0_step 93 = .ok (.iconst 2, 1) := by decide +kernel
theorem dX0_step_94 : decode cX0_step 94 = .ok (.iushr, 1) := by decide +kernel
theorem dX0_step_95 : decode cX0_step 95 = .ok (.iaload, 1) := by decide +kernel
theorem dX0_step_96 : decode cX0_step 96 = .ok (.invokevirtual 104, 3) := by decide +kernel
theorem dX0_step_99 : decode cX0_step 99 = .ok (.ifCond .eq 19, 3) := by decide +kernel
theorem dX0_step_102 : decode cX0_step 102 = .ok (.iload_n 1, 1) := by decide +kernel
theorem dX0_step_103 : decode cX0_step 103 = .ok (.ifCond .eq 15, 3) := by decide +kernel
theorem dX0_step_106 : decode cX0_step 106 = .ok (.aload_n 0, 1) := by decide +kernel
theorem dX0_step_107 : decode cX0_step 107 = .ok (.bipush 8, 2) := by decide +kernel
theorem dX0_step_109 : decode cX0_step 109 = .ok (.invokevirtual 107, 3) := by decide +kernel
theorem dX0_step_112 : decode cX0_step 112 = .ok (.aload_n 0, 1) := by decide +kernel
theorem dX0_step_113 : decode cX0_step 113 = .ok (.bipush 7, 2) := by decide +kernel
theorem dX0_step_115 : decode cX0_step 115 = .ok (.invokevirtual 107, 3) := by decide +kernel
theorem dX0_step_118 : decode cX0_step 118 = .ok (.return_, 1) := by decide +kernel
theorem dX0_countDown_0 : decode cX0_countDown 0 = .ok (.aload_n 0, 1) := by decide +kernel
theorem dX0_countDown_1 : decode cX0_countDown 1 = .ok (.getfield 17, 3) := by decide +kernel
theorem dX0_countDown_4 : decode cX0_countDown 4 = .ok (.iload_n 1, 1) := by decide +kernel
theorem dX0_countDown_5 : decode cX0_countDown 5 = .ok (.iaload, 1) := by decide +kernel
theorem dX0_countDown_6 : decode cX0_countDown 6 = .ok (.iconst (-1), 1) := by decide +kernel
theorem dX0_countDown_7 : decode cX0_countDown 7 = .ok (.if_icmp .eq 13, 3) := by decide +kernel
theorem dX0_countDown_10 : decode cX0_countDown 10 = .ok (.aload_n 0, 1) := by decide +kernel
theorem dX0_countDown_11 : decode cX0_countDown 11 = .ok (.getfield 17, 3) := by decide +kernel
theorem dX0_countDown_14 : decode cX0_countDown 14 = .ok (.iload_n 1, 1) := by decide +kernel
theorem dX0_countDown_15 : decode cX0_countDown 15 = .ok (.dup2, 1) := by decide +kernel
theorem dX0_countDown_16 : decode cX0_countDown 16 = .ok (.iaload, 1) := by decide +kernel
theorem dX0_countDown_17 : decode cX0_countDown 17 = .ok (.iconst 1, 1) := by decide +kernel
theorem dX0_countDown_18 : decode cX0_countDown 18 = .ok (.isub, 1) := by decide +kernel
theorem dX0_countDown_19 : decode cX0_countDown 19 = .ok (.iastore, 1) := by decide +kernel
theorem dX0_countDown_20 : decode cX0_countDown 20 = .ok (.return_, 1) := by decide +kernel
theorem dX0_trap_0 : decode cX0_trap 0 = .ok (.aload_n 0, 1) := by decide +kernel
theorem dX0_trap_1 : decode cX0_trap 1 = .ok (.getfield 17, 3) := by decide +kernel
theorem dX0_trap_4 : decode cX0_trap 4 = .ok (.iconst 3, 1) := by decide +kernel
