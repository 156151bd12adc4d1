theorem dX1_init_0 : decode cX1_init 0 = .ok (.aload_n 0, 1) := by decide +kernel
theorem dX1_init_1 : decode cX1_init 1 = .ok (.invokespecial 1, 3) := by decide +kernel
theorem dX1_init_4 : decode cX1_init 4 = .ok (.aload_n 0, 1) := by decide +kernel
theorem dX1_init_5 : decode cX1_init 5 = .ok (.sipush 2048, 3) := by decide +kernel
theorem dX1_init_8 : decode cX1_init 8 = .ok (.newarray .int, 2) := by decide +kernel
theorem dX1_init_10 : decode cX1_init 10 = .ok (.putfield 9, 3) := by decide +kernel
theorem dX1_init_13 : decode cX1_init 13 = .ok (.aload_n 0, 1) := by decide +kernel
theorem dX1_init_14 : decode cX1_init 14 = .ok (.bipush 8, 2) := by decide +kernel
theorem dX1_init_16 : decode cX1_init 16 = .ok (.newarray .int, 2) := by decide +kernel
theorem dX1_init_18 : decode cX1_init 18 = .ok (.putfield 13, 3) := by decide +kernel
theorem dX1_init_21 : decode cX1_init 21 = .ok (.aload_n 0, 1) := by decide +kernel
theorem dX1_init_22 : decode cX1_init 22 = .ok (.new 16, 3) := by decide +kernel
theorem dX1_init_25 : decode cX1_init 25 = .ok (.dup, 1) := by decide +kernel
theorem dX1_init_26 : decode cX1_init 26 = .ok (.invokespecial 18, 3) := by decide +kernel
theorem dX1_init_29 : decode cX1_init 29 = .ok (.putfield 19, 3) := by decide +kernel
theorem dX1_init_32 : decode cX1_init 32 = .ok (.aload_n 0, 1) := by decide +kernel
theorem dX1_init_33 : decode cX1_init 33 = .ok (.iconst 0, 1) := by decide +kernel
theorem dX1_init_34 : decode cX1_init 34 = .ok (.putfield 23, 3) := by decide +kernel
theorem dX1_init_37 : decode cX1_init 37 = .ok (.aload_n 0, 1) := by decide +kernel
theorem dX1_init_38 : decode cX1_init 38 = .ok (.lconst 0, 1) := by decide +kernel
theorem dX1_init_39 : decode cX1_init 39 = .ok (.putfield 27, 3) := by decide +kernel
theorem dX1_init_42 : decode cX1_init 42 = .ok (.aload_n 0, 1) := by decide +kernel
theorem dX1_init_43 : decode cX1_init 43 = .ok (.iconst 0, 1) := by decide +kernel
theorem dX1_init_44 : decode cX1_init 44 = .ok (.putfield 31, 3) := by decide +kernel
theorem dX1_init_47 : decode cX1_init 47 = .ok (.aload_n 0, 1) := by decide +kernel
theorem dX1_init_48 : decode cX1_init 48 = .ok (.iconst (-1), 1) := by decide +kernel
theorem dX1_init_49 : decode cX1_init 49 = .ok (.putfield 34, 3) := by decide +kernel
theorem dX1_init_52 : decode cX1_init 52 = .ok (.return_, 1) := by decide +kernel
theorem dX1_poke_0 : decode cX1_poke 0 = .ok (.iload_n 1, 1) := by decide +kernel
theorem dX1_poke_1 : decode cX1_poke 1 = .ok (.invokestatic 37, 3) := by decide +kernel
theorem dX1_poke_4 : decode cX1_poke 4 = .ok (.ifCond .ne 5, 3) := by decide +kernel
theorem dX1_poke_7 : decode cX1_poke 7 = .ok (.iconst 0, 1) := by decide +kernel
theorem dX1_poke_8 : decode cX1_poke 8 = .ok (.ireturn, 1) := by decide +kernel
theorem dX1_poke_9 : decode cX1_poke 9 = .ok (.aload_n 0, 1) := by decide +kernel
theorem dX1_poke_10 : decode cX1_poke 10 = .ok (.getfield 9, 3) := by decide +kernel
theorem dX1_poke_13 : decode cX1_poke 13 = .ok (.iload_n 1, 1) := by decide +kernel
theorem dX1_poke_14 : decode cX1_poke 14 = .ok (.iconst 1, 1) := by decide +kernel
theorem dX1_poke_15 : decode cX1_poke 15 = .ok (.ishr, 1) := by decide +kernel
theorem dX1_poke_16 : decode cX1_poke 16 = .ok (.iload_n 2, 1) := by decide +kernel
theorem dX1_poke_17 : decode cX1_poke 17 = .ok (.ldc 41, 2) := by decide +kernel
theorem dX1_poke_19 : decode cX1_poke 19 = .ok (.iand, 1) := by decide +kernel
theorem dX1_poke_20 : decode cX1_poke 20 = .ok (.iastore, 1) := by decide +kernel
theorem dX1_poke_21 : decode cX1_poke 21 = .ok (.iconst 1, 1) := by decide +kernel
theorem dX1_poke_22 : decode cX1_poke 22 = .ok (.ireturn, 1) := by decide +kernel
theorem dX1_isWordAddress_0 : decode cX1_isWordAddress 0 = .ok (.iload_n 0, 1) := by decide +kernel
theorem dX1_isWordAddress_1 : decode cX1_isWordAddress 1 = .ok (.ifCond .lt 20, 3) := by decide +kernel
theorem dX1_isWordAddress_4 : decode cX1_isWordAddress 4 = .ok (.iload_n 0, 1) := by decide +kernel
theorem dX1_isWordAddress_5 : decode cX1_isWordAddress 5 = .ok (.sipush 4096, 3) := by decide +kernel
theorem dX1_isWordAddress_8 : decode cX1_isWordAddress 8 = .ok (.if_icmp .ge 13, 3) := by decide +kernel
theorem dX1_isWordAddress_11 : decode cX1_isWordAddress 11 = .ok (.iload_n 0, 1) := by decide +kernel
theorem dX1_isWordAddress_12 : decode cX1_isWordAddress 12 = .ok (.iconst 1, 1) := by decide +kernel
theorem dX1_isWordAddress_13 : decode cX1_isWordAddress 13 = .ok (.iand, 1) := by decide +kernel
theorem dX1_isWordAddress_14 : decode cX1_isWordAddress 14 = .ok (.ifCond .ne 7, 3) := by decide +kernel
theorem dX1_isWordAddress_17 : decode cX1_isWordAddress 17 = .ok (.iconst 1, 1) := by decide +kernel
theorem dX1_isWordAddress_18 : decode cX1_isWordAddress 18 = .ok (.goto 4, 3) := by decide +kernel
theorem dX1_isWordAddress_21 : decode cX1_isWordAddress 21 = .ok (.iconst 0, 1) := by decide +kernel
theorem dX1_isWordAddress_22 : decode cX1_isWordAddress 22 = .ok (.ireturn, 1) := by decide +kernel
theorem dX1_peek_0 : decode cX1_peek 0 = .ok (.iload_n 1, 1) := by decide +kernel
theorem dX1_peek_1 : decode cX1_peek 1 = .ok (.invokestatic 37, 3) := by decide +kernel
theorem dX1_peek_4 : decode cX1_peek 4 = .ok (.ifCond .eq 14, 3) := by decide +kernel
theorem dX1_peek_7 : decode cX1_peek 7 = .ok (.aload_n 0, 1) := by decide +kernel
theorem dX1_peek_8 : decode cX1_peek 8 = .ok (.getfield 9, 3) := by decide +kernel
theorem dX1_peek_11 : decode cX1_peek 11 = .ok (.iload_n 1, 1) := by decide +kernel
theorem dX1_peek_12 : decode cX1_peek 12 = .ok (.iconst 1, 1) := by decide +kernel
theorem dX1_peek_13 : decode cX1_peek 13 = .ok (.ishr, 1) := by decide +kernel
theorem dX1_peek_14 : decode cX1_peek 14 = .ok (.iaload, 1) := by decide +kernel
theorem dX1_peek_15 : decode cX1_peek 15 = .ok (.goto 4, 3) := by decide +kernel
theorem dX1_peek_18 : decode cX1_peek 18 = .ok (.iconst (-1), 1) := by decide +kernel
theorem dX1_peek_19 : decode cX1_peek 19 = .ok (.ireturn, 1) := by decide +kernel
theorem dX1_set_0 : decode cX1_set 0 = .ok (.iload_n 1, 1) := by decide +kernel
theorem dX1_set_1 : decode cX1_set 1 = .ok (.invokestatic 42, 3) := by decide +kernel
theorem dX1_set_4 : decode cX1_set 4 = .ok (.ifCond .ne 5, 3) := by decide +kernel
theorem dX1_set_7 : decode cX1_set 7 = .ok (.iconst 0, 1) := by decide +kernel
theorem dX1_set_8 : decode cX1_set 8 = .ok (.ireturn, 1) := by decide +kernel
theorem dX1_set_9 : decode cX1_set 9 = .ok (.aload_n 0, 1) := by decide +kernel
theorem dX1_set_10 : decode cX1_set 10 = .ok (.getfield 13, 3) := by decide +kernel
theorem dX1_set_13 : decode cX1_set 13 = .ok (.iload_n 1, 1) := by decide +kernel
theorem dX1_set_14 : decode cX1_set 14 = .ok (.iload_n 2, 1) := by decide +kernel
theorem dX1_set_15 : decode cX1_set 15 = .ok (.ldc 41, 2) := by decide +kernel
theorem dX1_set_17 : decode cX1_set 17 = .ok (.iand, 1) := by decide +kernel
theorem dX1_set_18 : decode cX1_set 18 = .ok (.iastore, 1) := by decide +kernel
theorem dX1_set_19 : decode cX1_set 19 = .ok (.iconst 1, 1) := by decide +kernel
theorem dX1_set_20 : decode cX1_set 20 = .ok (.ireturn, 1) := by decide +kernel
theorem dX1_isRegister_0 : decode cX1_isRegister 0 = .ok (.iload_n 0, 1) := by decide +kernel
theorem dX1_isRegister_1 : decode cX1_isRegister 1 = .ok (.ifCond .lt 13, 3) := by decide +kernel
theorem dX1_isRegister_4 : decode cX1_isRegister 4 = .ok (.iload_n 0, 1) := by decide +kernel
theorem dX1_isRegister_5 : decode cX1_isRegister 5 = .ok (.bipush 8, 2) := by decide +kernel
theorem dX1_isRegister_7 : decode cX1_isRegister 7 = .ok (.if_icmp .ge 7, 3) := by decide +kernel
theorem dX1_isRegister_10 : decode cX1_isRegister 10 = .ok (.iconst 1, 1) := by decide +kernel
theorem dX1_isRegister_11 : decode cX1_isRegister 11 = .ok (.goto 4, 3) := by decide +kernel
theorem dX1_isRegister_14 : decode cX1_isRegister 14 = .ok (.iconst 0, 1) := by decide +kernel
theorem dX1_isRegister_15 : decode cX1_isRegister 15 = .ok (.ireturn, 1) := by decide +kernel
theorem dX1_register_0 : decode cX1_register 0 = .ok (.iload_n 1, 1) := by decide +kernel
theorem dX1_register_1 : decode cX1_register 1 = .ok (.invokestatic 42, 3) := by decide +kernel
theorem dX1_register_4 : decode cX1_register 4 = .ok (.ifCond .eq 12, 3) := by decide +kernel
theorem dX1_register_7 : decode cX1_register 7 = .ok (.aload_n 0, 1) := by decide +kernel
theorem dX1_register_8 : decode cX1_register 8 = .ok (.getfield 13, 3) := by decide +kernel
theorem dX1_register_11 : decode cX1_register 11 = .ok (.iload_n 1, 1) := by decide +kernel
theorem dX1_register_12 : decode cX1_register 12 = .ok (.iaload, 1) := by decide +kernel
theorem dX1_register_13 : decode cX1_register 13 = .ok (.goto 4, 3) := by decide +kernel
theorem dX1_register_16 : decode cX1_register 16 = .ok (.iconst (-1), 1) := by decide +kernel
theorem dX1_register_17 : decode cX1_register 17 = .ok (.ireturn, 1) := by decide +kernel
theorem dX1_flags_0 : decode cX1_flags 0 = .ok (.aload_n 0, 1) := by decide +kernel
theorem dX1_flags_1 : decode cX1_flags 1 = .ok (.getfield 19, 3) := by decide +kernel
theorem dX1_flags_4 : decode cX1_flags 4 = .ok (.invokevirtual 45, 3) := by decide +kernel
theorem dX1_flags_7 : decode cX1_flags 7 = .ok (.ireturn, 1) := by decide +kernel
theorem dX1_step_0 : decode cX1_step 0 = .ok (.aload_n 0, 1) := by decide +kernel
theorem dX1_step_1 : decode cX1_step 1 = .ok (.getfield 23, 3) := by decide +kernel
theorem dX1_step_4 : decode cX1_step 4 = .ok (.ifCond .ne 10, 3) := by decide +kernel
theorem dX1_step_7 : decode cX1_step 7 = .ok (.aload_n 0, 1) := by decide +kernel
theorem dX1_step_8 : decode cX1_step 8 = .ok (.invokevirtual 49, 3) := by decide +kernel
theorem dX1_step_11 : decode cX1_step 11 = .ok (.goto 4, 3) := by decide +kernel
theorem dX1_step_14 : decode cX1_step 14 = .ok (.iconst (-1), 1) := by decide +kernel
theorem dX1_step_15 : decode cX1_step 15 = .ok (.ireturn, 1) := by decide +kernel
theorem dX1_doInstruction_0 : decode cX1_doInstruction 0 = .ok (.aload_n 0, 1) := by decide +kernel
theorem dX1_doInstruction_1 : decode cX1_doInstruction 1 = .ok (.iconst 2, 1) := by decide +kernel
theorem dX1_doInstruction_2 : decode cX1_doInstruction 2 = .ok (.putfield 31, 3) := by decide +kernel
theorem dX1_doInstruction_5 : decode cX1_doInstruction 5 = .ok (.aload_n 0, 1) := by decide +kernel
theorem dX1_doInstruction_6 : decode cX1_doInstruction 6 = .ok (.aload_n 0, 1) := by decide +kernel
theorem dX1_doInstruction_7 : decode cX1_doInstruction 7 = .ok (.bipush 7, 2) := by decide +kernel
theorem dX1_doInstruction_9 : decode cX1_doInstruction 9 = .ok (.iconst 2, 1) := by decide +kernel
theorem dX1_doInstruction_10 : decode cX1_doInstruction 10 = .ok (.invokevirtual 58, 3) := by decide +kernel
theorem dX1_doInstruction_13 : decode cX1_doInstruction 13 = .ok (.invokevirtual 61, 3) := by decide +kernel
theorem dX1_doInstruction_16 : decode cX1_doInstruction 16 = .ok (.istore_n 1, 1) := by decide +kernel
theorem dX1_doInstruction_17 : decode cX1_doInstruction 17 = .ok (.iload_n 1, 1) := by decide +kernel
theorem dX1_doInstruction_18 : decode cX1_doInstruction 18 = .ok (.iconst (-1), 1) := by decide +kernel
theorem dX1_doInstruction_19 : decode cX1_doInstruction 19 = .ok (.if_icmp .eq 8, 3) := by decide +kernel
theorem dX1_doInstruction_22 : decode cX1_doInstruction 22 = .ok (.aload_n 0, 1) := by decide +kernel
theorem dX1_doInstruction_23 : decode cX1_doInstruction 23 = .ok (.iload_n 1, 1) := by decide +kernel
theorem dX1_doInstruction_24 : decode cX1_doInstruction 24 = .ok (.invokevirtual 65, 3) := by decide +kernel
theorem dX1_doInstruction_27 : decode cX1_doInstruction 27 = .ok (.aload_n 0, 1) := by decide +kernel
theorem dX1_doInstruction_28 : decode cX1_doInstruction 28 = .ok (.getfield 23, 3) := by decide +kernel
theorem dX1_doInstruction_31 : decode cX1_doInstruction 31 = .ok (.ifCond .eq 5, 3) := by decide +kernel
theorem dX1_doInstruction_34 : decode cX1_doInstruction 34 = .ok (.iconst (-1), 1) := by decide +kernel
theorem dX1_doInstruction_35 : decode cX1_doInstruction 35 = .ok (.ireturn, 1) := by decide +kernel
theorem dX1_doInstruction_36 : decode cX1_doInstruction 36 = .ok (.aload_n 0, 1) := by decide +kernel
theorem dX1_doInstruction_37 : decode cX1_doInstruction 37 = .ok (.dup, 1) := by decide +kernel
theorem dX1_doInstruction_38 : decode cX1_doInstruction 38 = .ok (.getfield 27, 3) := by decide +kernel
theorem dX1_doInstruction_41 : decode cX1_doInstruction 41 = .ok (.aload_n 0, 1) := by decide +kernel
theorem dX1_doInstruction_42 : decode cX1_doInstruction 42 = .ok (.getfield 31, 3) := by decide +kernel
theorem dX1_doInstruction_45 : decode cX1_doInstruction 45 = .ok (.i2l, 1) := by decide +kernel
theorem dX1_doInstruction_46 : decode cX1_doInstruction 46 = .ok (.ladd, 1) := by decide +kernel
theorem dX1_doInstruction_47 : decode cX1_doInstruction 47 = .ok (.putfield 27, 3) := by decide +kernel
theorem dX1_doInstruction_50 : decode cX1_doInstruction 50 = .ok (.aload_n 0, 1) := by decide +kernel
theorem dX1_doInstruction_51 : decode cX1_doInstruction 51 = .ok (.getfield 31, 3) := by decide +kernel
theorem dX1_doInstruction_54 : decode cX1_doInstruction 54 = .ok (.ireturn, 1) := by decide +kernel
theorem dX1_stepUp_0 : decode cX1_stepUp 0 = .ok (.aload_n 0, 1) := by decide +kernel
theorem dX1_stepUp_1 : decode cX1_stepUp 1 = .ok (.getfield 13, 3) := by decide +kernel
theorem dX1_stepUp_4 : decode cX1_stepUp 4 = .ok (.iload_n 1, 1) := by decide +kernel
theorem dX1_stepUp_5 : decode cX1_stepUp 5 = .ok (.iaload, 1) := by decide +kernel
theorem dX1_stepUp_6 : decode cX1_stepUp 6 = .ok (.istore_n 3, 1) := by decide +kernel
theorem dX1_stepUp_7 : decode cX1_stepUp 7 = .ok (.aload_n 0, 1) := by decide +kernel
theorem dX1_stepUp_8 : decode cX1_stepUp 8 = .ok (.getfield 13, 3) := by decide +kernel
theorem dX1_stepUp_11 : decode cX1_stepUp 11 = .ok (.iload_n 1, 1) := by decide +kernel
theorem dX1_stepUp_12 : decode cX1_stepUp 12 = .ok (.iload_n 3, 1) := by decide +kernel
theorem dX1_stepUp_13 : decode cX1_stepUp 13 = .ok (.iload_n 2, 1) := by decide +kernel
theorem dX1_stepUp_14 : decode cX1_stepUp 14 = .ok (.iadd, 1) := by decide +kernel
theorem dX1_stepUp_15 : decode cX1_stepUp 15 = .ok (.ldc 41, 2) := by decide +kernel
theorem dX1_stepUp_17 : decode cX1_stepUp 17 = .ok (.iand, 1) := by decide +kernel
theorem dX1_stepUp_18 : decode cX1_stepUp 18 = .ok (.iastore, 1) := by decide +kernel
theorem dX1_stepUp_19 : decode cX1_stepUp 19 = .ok (.iload_n 3, 1) := by decide +kernel
theorem dX1_stepUp_20 : decode cX1_stepUp 20 = .ok (.ireturn, 1) := by decide +kernel
theorem dX1_readWord_0 : decode cX1_readWord 0 = .ok (.iload_n 1, 1) := by decide +kernel
theorem dX1_readWord_1 : decode cX1_readWord 1 = .ok (.iconst 1, 1) := by decide +kernel
theorem dX1_readWord_2 : decode cX1_readWord 2 = .ok (.iand, 1) := by decide +kernel
theorem dX1_readWord_3 : decode cX1_readWord 3 = .ok (.ifCond .eq 10, 3) := by decide +kernel
theorem dX1_readWord_6 : decode cX1_readWord 6 = .ok (.aload_n 0, 1) := by decide +kernel
theorem dX1_readWord_7 : decode cX1_readWord 7 = .ok (.iconst 3, 1) := by decide +kernel
theorem dX1_readWord_8 : decode cX1_readWord 8 = .ok (.putfield 23, 3) := by decide +kernel
theorem dX1_readWord_11 : decode cX1_readWord 11 = .ok (.iconst (-1), 1) := by decide +kernel
theorem dX1_readWord_12 : decode cX1_readWord 12 = .ok (.ireturn, 1) := by decide +kernel
theorem dX1_readWord_13 : decode cX1_readWord 13 = .ok (.iload_n 1, 1) := by decide +kernel
theorem dX1_readWord_14 : decode cX1_readWord 14 = .ok (.sipush 4096, 3) := by decide +kernel
theorem dX1_readWord_17 : decode cX1_readWord 17 = .ok (.if_icmp .lt 10, 3) := by decide +kernel
theorem dX1_readWord_20 : decode cX1_readWord 20 = .ok (.aload_n 0, 1) := by decide +kernel
theorem dX1_readWord_21 : decode cX1_readWord 21 = .ok (.iconst 4, 1) := by decide +kernel
theorem dX1_readWord_22 : decode cX1_readWord 22 = .ok (.putfield 23, 3) := by decide +kernel
theorem dX1_readWord_25 : decode cX1_readWord 25 = .ok (.iconst (-1), 1) := by decide +kernel
theorem dX1_readWord_26 : decode cX1_readWord 26 = .ok (.ireturn, 1) := by decide +kernel
theorem dX1_readWord_27 : decode cX1_readWord 27 = .ok (.aload_n 0, 1) := by decide +kernel
theorem dX1_readWord_28 : decode cX1_readWord 28 = .ok (.getfield 9, 3) := by decide +kernel
theorem dX1_readWord_31 : decode cX1_readWord 31 = .ok (.iload_n 1, 1) := by decide +kernel
theorem dX1_readWord_32 : decode cX1_readWord 32 = .ok (.iconst 1, 1) := by decide +kernel
theorem dX1_readWord_33 : decode cX1_readWord 33 = .ok (.ishr, 1) := by decide +kernel
theorem dX1_readWord_34 : decode cX1_readWord 34 = .ok (.iaload, 1) := by decide +kernel
theorem dX1_readWord_35 : decode cX1_readWord 35 = .ok (.ireturn, 1) := by decide +kernel
theorem dX1_perform_0 : decode cX1_perform 0 = .ok (.iload_n 1, 1) := by decide +kernel
theorem dX1_perform_1 : decode cX1_perform 1 = .ok (.invokestatic 69, 3) := by decide +kernel
theorem dX1_perform_4 : decode cX1_perform 4 = .ok (.ifCond .eq 11, 3) := by decide +kernel
theorem dX1_perform_7 : decode cX1_perform 7 = .ok (.aload_n 0, 1) := by decide +kernel
theorem dX1_perform_8 : decode cX1_perform 8 = .ok (.iload_n 1, 1) := by decide +kernel
theorem dX1_perform_9 : decode cX1_perform 9 = .ok (.invokevirtual 72, 3) := by decide +kernel
theorem dX1_perform_12 : decode cX1_perform 12 = .ok (.goto 136, 3) := by decide +kernel
theorem dX1_perform_15 : decode cX1_perform 15 = .ok (.iload_n 1, 1) := by decide +kernel
theorem dX1_perform_16 : decode cX1_perform 16 = .ok (.invokestatic 75, 3) := by decide +kernel
theorem dX1_perform_19 : decode cX1_perform 19 = .ok (.ifCond .eq 11, 3) := by decide +kernel
theorem dX1_perform_22 : decode cX1_perform 22 = .ok (.aload_n 0, 1) := by decide +kernel
theorem dX1_perform_23 : decode cX1_perform 23 = .ok (.iload_n 1, 1) := by decide +kernel
theorem dX1_perform_24 : decode cX1_perform 24 = .ok (.invokevirtual 78, 3) := by decide +kernel
theorem dX1_perform_27 : decode cX1_perform 27 = .ok (.goto 121, 3) := by decide +kernel
theorem dX1_perform_30 : decode cX1_perform 30 = .ok (.iload_n 1, 1) := by decide +kernel
theorem dX1_perform_31 : decode cX1_perform 31 = .ok (.invokestatic 81, 3) := by decide +kernel
theorem dX1_perform_34 : decode cX1_perform 34 = .ok (.ifCond .eq 11, 3) := by decide +kernel
theorem dX1_perform_37 : decode cX1_perform 37 = .ok (.aload_n 0, 1) := by decide +kernel
theorem dX1_perform_38 : decode cX1_perform 38 = .ok (.iload_n 1, 1) := by decide +kernel
theorem dX1_perform_39 : decode cX1_perform 39 = .ok (.invokevirtual 84, 3) := by decide +kernel
theorem dX1_perform_42 : decode cX1_perform 42 = .ok (.goto 106, 3) := by decide +kernel
theorem dX1_perform_45 : decode cX1_perform 45 = .ok (.iload_n 1, 1) := by decide +kernel
theorem dX1_perform_46 : decode cX1_perform 46 = .ok (.bipush 9, 2) := by decide +kernel
theorem dX1_perform_48 : decode cX1_perform 48 = .ok (.ishr, 1) := by decide +kernel
theorem dX1_perform_49 : decode cX1_perform 49 = .ok (.bipush 63, 2) := by decide +kernel
theorem dX1_perform_51 : decode cX1_perform 51 = .ok (.if_icmp .ne 11, 3) := by decide +kernel
theorem dX1_perform_54 : decode cX1_perform 54 = .ok (.aload_n 0, 1) := by decide +kernel
theorem dX1_perform_55 : decode cX1_perform 55 = .ok (.iload_n 1, 1) := by decide +kernel
theorem dX1_perform_56 : decode cX1_perform 56 = .ok (.invokevirtual 87, 3) := by decide +kernel
theorem dX1_perform_59 : decode cX1_perform 59 = .ok (.goto 89, 3) := by decide +kernel
theorem dX1_perform_62 : decode cX1_perform 62 = .ok (.iload_n 1, 1) := by decide +kernel
theorem dX1_perform_63 : decode cX1_perform 63 = .ok (.bipush 6, 2) := by decide +kernel
theorem dX1_perform_65 : decode cX1_perform 65 = .ok (.ishr, 1) := by decide +kernel
theorem dX1_perform_66 : decode cX1_perform 66 = .ok (.iconst 1, 1) := by decide +kernel
theorem dX1_perform_67 : decode cX1_perform 67 = .ok (.if_icmp .ne 11, 3) := by decide +kernel
theorem dX1_perform_70 : decode cX1_perform 70 = .ok (.aload_n 0, 1) := by decide +kernel
theorem dX1_perform_71 : decode cX1_perform 71 = .ok (.iload_n 1, 1) := by decide +kernel
theorem dX1_perform_72 : decode cX1_perform 72 = .ok (.invokevirtual 90, 3) := by decide +kernel
theorem dX1_perform_75 : decode cX1_perform 75 = .ok (.goto 73, 3) := by decide +kernel
theorem dX1_perform_78 : decode cX1_perform 78 = .ok (.iload_n 1, 1) := by decide +kernel
theorem dX1_perform_79 : decode cX1_perform 79 = .ok (.bipush 9, 2) := by decide +kernel
theorem dX1_perform_81 : decode cX1_perform 81 = .ok (.ishr, 1) := by decide +kernel
theorem dX1_perform_82 : decode cX1_perform 82 = .ok (.iconst 4, 1) := by decide +kernel
theorem dX1_perform_83 : decode cX1_perform 83 = .ok (.if_icmp .ne 11, 3) := by decide +kernel
theorem dX1_perform_86 : decode cX1_perform 86 = .ok (.aload_n 0, 1) := by decide +kernel
theorem dX1_perform_87 : decode cX1_perform 87 = .ok (.iload_n 1, 1) := by decide +kernel
theorem dX1_perform_88 : decode cX1_perform 88 = .ok (.invokevirtual 93, 3) := by decide +kernel
theorem dX1_perform_91 : decode cX1_perform 91 = .ok (.goto 57, 3) := by decide +kernel
theorem dX1_perform_94 : decode cX1_perform 94 = .ok (.iload_n 1, 1) := by decide +kernel
theorem dX1_perform_95 : decode cX1_perform 95 = .ok (.iconst 3, 1) := by decide +kernel
theorem dX1_perform_96 : decode cX1_perform 96 = .ok (.ishr, 1) := by decide +kernel
theorem dX1_perform_97 : decode cX1_perform 97 = .ok (.bipush 16, 2) := by decide +kernel
theorem dX1_perform_99 : decode cX1_perform 99 = .ok (.if_icmp .ne 14, 3) := by decide +kernel
theorem dX1_perform_102 : decode cX1_perform 102 = .ok (.aload_n 0, 1) := by decide +kernel
theorem dX1_perform_103 : decode cX1_perform 103 = .ok (.iload_n 1, 1) := by decide +kernel
theorem dX1_perform_104 : decode cX1_perform 104 = .ok (.bipush 7, 2) := by decide +kernel
theorem dX1_perform_106 : decode cX1_perform 106 = .ok (.iand, 1) := by decide +kernel
theorem dX1_perform_107 : decode cX1_perform 107 = .ok (.invokevirtual 96, 3) := by decide +kernel
theorem dX1_perform_110 : decode cX1_perform 110 = .ok (.goto 38, 3) := by decide +kernel
theorem dX1_perform_113 : decode cX1_perform 113 = .ok (.iload_n 1, 1) := by decide +kernel
theorem dX1_perform_114 : decode cX1_perform 114 = .ok (.sipush 160, 3) := by decide +kernel
theorem dX1_perform_117 : decode cX1_perform 117 = .ok (.if_icmp .lt 18, 3) := by decide +kernel
theorem dX1_perform_120 : decode cX1_perform 120 = .ok (.iload_n 1, 1) := by decide +kernel
theorem dX1_perform_121 : decode cX1_perform 121 = .ok (.sipush 191, 3) := by decide +kernel
theorem dX1_perform_124 : decode cX1_perform 124 = .ok (.if_icmp .gt 11, 3) := by decide +kernel
theorem dX1_perform_127 : decode cX1_perform 127 = .ok (.aload_n 0, 1) := by decide +kernel
theorem dX1_perform_128 : decode cX1_perform 128 = .ok (.iload_n 1, 1) := by decide +kernel
theorem dX1_perform_129 : decode cX1_perform 129 = .ok (.invokevirtual 99, 3) := by decide +kernel
theorem dX1_perform_132 : decode cX1_perform 132 = .ok (.goto 16, 3) := by decide +kernel
theorem dX1_perform_135 : decode cX1_perform 135 = .ok (.aload_n 0, 1) := by decide +kernel
theorem dX1_perform_136 : decode cX1_perform 136 = .ok (.iload_n 1, 1) := by decide +kernel
theorem dX1_perform_137 : decode cX1_perform 137 = .ok (.ifCond .ne 7, 3) := by decide +kernel
theorem dX1_perform_140 : decode cX1_perform 140 = .ok (.iconst 1, 1) := by decide +kernel
theorem dX1_perform_141 : decode cX1_perform 141 = .ok (.goto 4, 3) := by decide +kernel
theorem dX1_perform_144 : decode cX1_perform 144 = .ok (.iconst 2, 1) := by decide +kernel
theorem dX1_perform_145 : decode cX1_perform 145 = .ok (.putfield 23, 3) := by decide +kernel
theorem dX1_perform_148 : decode cX1_perform 148 = .ok (.return_, 1) := by decide +kernel
theorem dX1_isOfTwoOperands_0 : decode cX1_isOfTwoOperands 0 = .ok (.iload_n 0, 1) := by decide +kernel
theorem dX1_isOfTwoOperands_1 : decode cX1_isOfTwoOperands 1 = .ok (.bipush 12, 2) := by decide +kernel
theorem dX1_isOfTwoOperands_3 : decode cX1_isOfTwoOperands 3 = .ok (.ishr, 1) := by decide +kernel
theorem dX1_isOfTwoOperands_4 : decode cX1_isOfTwoOperands 4 = .ok (.bipush 7, 2) := by decide +kernel
theorem dX1_isOfTwoOperands_6 : decode cX1_isOfTwoOperands 6 = .ok (.iand, 1) := by decide +kernel
theorem dX1_isOfTwoOperands_7 : decode cX1_isOfTwoOperands 7 = .ok (.istore_n 1, 1) := by decide +kernel
theorem dX1_isOfTwoOperands_8 : decode cX1_isOfTwoOperands 8 = .ok (.iload_n 1, 1) := by decide +kernel
theorem dX1_isOfTwoOperands_9 : decode cX1_isOfTwoOperands 9 = .ok (.iconst 1, 1) := by decide +kernel
theorem dX1_isOfTwoOperands_10 : decode cX1_isOfTwoOperands 10 = .ok (.if_icmp .lt 13, 3) := by decide +kernel
theorem dX1_isOfTwoOperands_13 : decode cX1_isOfTwoOperands 13 = .ok (.iload_n 1, 1) := by decide +kernel
theorem dX1_isOfTwoOperands_14 : decode cX1_isOfTwoOperands 14 = .ok (.bipush 6, 2) := by decide +kernel
theorem dX1_isOfTwoOperands_16 : decode cX1_isOfTwoOperands 16 = .ok (.if_icmp .gt 7, 3) := by decide +kernel
theorem dX1_isOfTwoOperands_19 : decode cX1_isOfTwoOperands 19 = .ok (.iconst 1, 1) := by decide +kernel
theorem dX1_isOfTwoOperands_20 : decode cX1_isOfTwoOperands 20 = .ok (.goto 4, 3) := by decide +kernel
theorem dX1_isOfTwoOperands_23 : decode cX1_isOfTwoOperands 23 = .ok (.iconst 0, 1) := by decide +kernel
theorem dX1_isOfTwoOperands_24 : decode cX1_isOfTwoOperands 24 = .ok (.ireturn, 1) := by decide +kernel
theorem dX1_doTwoOperands_0 : decode cX1_doTwoOperands 0 = .ok (.iload_n 1, 1) := by decide +kernel
theorem dX1_doTwoOperands_1 : decode cX1_doTwoOperands 1 = .ok (.bipush 12, 2) := by decide +kernel
theorem dX1_doTwoOperands_3 : decode cX1_doTwoOperands 3 = .ok (.ishr, 1) := by decide +kernel
theorem dX1_doTwoOperands_4 : decode cX1_doTwoOperands 4 = .ok (.bipush 14, 2) := by decide +kernel
theorem dX1_doTwoOperands_6 : decode cX1_doTwoOperands 6 = .ok (.if_icmp .ne 7, 3) := by decide +kernel
theorem dX1_doTwoOperands_9 : decode cX1_doTwoOperands 9 = .ok (.iconst 1, 1) := by decide +kernel
theorem dX1_doTwoOperands_10 : decode cX1_doTwoOperands 10 = .ok (.goto 4, 3) := by decide +kernel
theorem dX1_doTwoOperands_13 : decode cX1_doTwoOperands 13 = .ok (.iconst 0, 1) := by decide +kernel
theorem dX1_doTwoOperands_14 : decode cX1_doTwoOperands 14 = .ok (.istore_n 2, 1) := by decide +kernel
theorem dX1_doTwoOperands_15 : decode cX1_doTwoOperands 15 = .ok (.iload_n 2, 1) := by decide +kernel
theorem dX1_doTwoOperands_16 : decode cX1_doTwoOperands 16 = .ok (.ifCond .ne 14, 3) := by decide +kernel
theorem dX1_doTwoOperands_19 : decode cX1_doTwoOperands 19 = .ok (.iload_n 1, 1) := by decide +kernel
theorem dX1_doTwoOperands_20 : decode cX1_doTwoOperands 20 = .ok (.ldc 103, 2) := by decide +kernel
theorem dX1_doTwoOperands_22 : decode cX1_doTwoOperands 22 = .ok (.iand, 1) := by decide +kernel
theorem dX1_doTwoOperands_23 : decode cX1_doTwoOperands 23 = .ok (.ifCond .eq 7, 3) := by decide +kernel
theorem dX1_doTwoOperands_26 : decode cX1_doTwoOperands 26 = .ok (.iconst 1, 1) := by decide +kernel
theorem dX1_doTwoOperands_27 : decode cX1_doTwoOperands 27 = .ok (.goto 4, 3) := by decide +kernel
theorem dX1_doTwoOperands_30 : decode cX1_doTwoOperands 30 = .ok (.iconst 0, 1) := by decide +kernel
theorem dX1_doTwoOperands_31 : decode cX1_doTwoOperands 31 = .ok (.istore_n 3, 1) := by decide +kernel
theorem dX1_doTwoOperands_32 : decode cX1_doTwoOperands 32 = .ok (.aload_n 0, 1) := by decide +kernel
theorem dX1_doTwoOperands_33 : decode cX1_doTwoOperands 33 = .ok (.iload_n 1, 1) := by decide +kernel
theorem dX1_doTwoOperands_34 : decode cX1_doTwoOperands 34 = .ok (.bipush 6, 2) := by decide +kernel
theorem dX1_doTwoOperands_36 : decode cX1_doTwoOperands 36 = .ok (.ishr, 1) := by decide +kernel
theorem dX1_doTwoOperands_37 : decode cX1_doTwoOperands 37 = .ok (.bipush 63, 2) := by decide +kernel
theorem dX1_doTwoOperands_39 : decode cX1_doTwoOperands 39 = .ok (.iand, 1) := by decide +kernel
theorem dX1_doTwoOperands_40 : decode cX1_doTwoOperands 40 = .ok (.iload_n 3, 1) := by decide +kernel
theorem dX1_doTwoOperands_41 : decode cX1_doTwoOperands 41 = .ok (.invokevirtual 104, 3) := by decide +kernel
theorem dX1_doTwoOperands_44 : decode cX1_doTwoOperands 44 = .ok (.istore 4, 2) := by decide +kernel
theorem dX1_doTwoOperands_46 : decode cX1_doTwoOperands 46 = .ok (.iload 4, 2) := by decide +kernel
theorem dX1_doTwoOperands_48 : decode cX1_doTwoOperands 48 = .ok (.iconst (-1), 1) := by decide +kernel
theorem dX1_doTwoOperands_49 : decode cX1_doTwoOperands 49 = .ok (.if_icmp .ne 4, 3) := by decide +kernel
theorem dX1_doTwoOperands_52 : decode cX1_doTwoOperands 52 = .ok (.return_, 1) := by decide +kernel
theorem dX1_doTwoOperands_53 : decode cX1_doTwoOperands 53 = .ok (.aload_n 0, 1) := by decide +kernel
theorem dX1_doTwoOperands_54 : decode cX1_doTwoOperands 54 = .ok (.iload_n 1, 1) := by decide +kernel
theorem dX1_doTwoOperands_55 : decode cX1_doTwoOperands 55 = .ok (.bipush 63, 2) := by decide +kernel
theorem dX1_doTwoOperands_57 : decode cX1_doTwoOperands 57 = .ok (.iand, 1) := by decide +kernel
theorem dX1_doTwoOperands_58 : decode cX1_doTwoOperands 58 = .ok (.iload_n 3, 1) := by decide +kernel
theorem dX1_doTwoOperands_59 : decode cX1_doTwoOperands 59 = .ok (.invokevirtual 104, 3) := by decide +kernel
theorem dX1_doTwoOperands_62 : decode cX1_doTwoOperands 62 = .ok (.istore 5, 2) := by decide +kernel
theorem dX1_doTwoOperands_64 : decode cX1_doTwoOperands 64 = .ok (.iload 5, 2) := by decide +kernel
theorem dX1_doTwoOperands_66 : decode cX1_doTwoOperands 66 = .ok (.iconst (-1), 1) := by decide +kernel
theorem dX1_doTwoOperands_67 : decode cX1_doTwoOperands 67 = .ok (.if_icmp .ne 4, 3) := by decide +kernel
theorem dX1_doTwoOperands_70 : decode cX1_doTwoOperands 70 = .ok (.return_, 1) := by decide +kernel
theorem dX1_doTwoOperands_71 : decode cX1_doTwoOperands 71 = .ok (.iload_n 2, 1) := by decide +kernel
theorem dX1_doTwoOperands_72 : decode cX1_doTwoOperands 72 = .ok (.ifCond .eq 8, 3) := by decide +kernel
theorem dX1_doTwoOperands_75 : decode cX1_doTwoOperands 75 = .ok (.bipush 14, 2) := by decide +kernel
theorem dX1_doTwoOperands_77 : decode cX1_doTwoOperands 77 = .ok (.goto 10, 3) := by decide +kernel
theorem dX1_doTwoOperands_80 : decode cX1_doTwoOperands 80 = .ok (.iload_n 1, 1) := by decide +kernel
theorem dX1_doTwoOperands_81 : decode cX1_doTwoOperands 81 = .ok (.bipush 12, 2) := by decide +kernel
theorem dX1_doTwoOperands_83 : decode cX1_doTwoOperands 83 = .ok (.ishr, 1) := by decide +kernel
theorem dX1_doTwoOperands_84 : decode cX1_doTwoOperands 84 = .ok (.bipush 7, 2) := by decide +kernel
theorem dX1_doTwoOperands_86 : decode cX1_doTwoOperands 86 = .ok (.iand, 1) := by decide +kernel
theorem dX1_doTwoOperands_87 : decode cX1_doTwoOperands 87 = .ok (.istore 6, 2) := by decide +kernel
theorem dX1_doTwoOperands_89 : decode cX1_doTwoOperands 89 = .ok (.aload_n 0, 1) := by decide +kernel
theorem dX1_doTwoOperands_90 : decode cX1_doTwoOperands 90 = .ok (.getfield 19, 3) := by decide +kernel
theorem dX1_doTwoOperands_93 : decode cX1_doTwoOperands 93 = .ok (.iload_n 3, 1) := by decide +kernel
theorem dX1_doTwoOperands_94 : decode cX1_doTwoOperands 94 = .ok (.invokevirtual 108, 3) := by decide +kernel
theorem dX1_doTwoOperands_97 : decode cX1_doTwoOperands 97 = .ok (.aload_n 0, 1) := by decide +kernel
theorem dX1_doTwoOperands_98 : decode cX1_doTwoOperands 98 = .ok (.getfield 19, 3) := by decide +kernel
theorem dX1_doTwoOperands_101 : decode cX1_doTwoOperands 101 = .ok (.iload 6, 2) := by decide +kernel
theorem dX1_doTwoOperands_103 : decode cX1_doTwoOperands 103 = .ok (.iload 4, 2) := by decide +kernel
theorem dX1_doTwoOperands_105 : decode cX1_doTwoOperands 105 = .ok (.iload 5, 2) := by decide +kernel
theorem dX1_doTwoOperands_107 : decode cX1_doTwoOperands 107 = .ok (.invokevirtual 112, 3) := by decide +kernel
theorem dX1_doTwoOperands_110 : decode cX1_doTwoOperands 110 = .ok (.istore 7, 2) := by decide +kernel
theorem dX1_doTwoOperands_112 : decode cX1_doTwoOperands 112 = .ok (.aload_n 0, 1) := by decide +kernel
theorem dX1_doTwoOperands_113 : decode cX1_doTwoOperands 113 = .ok (.dup, 1) := by decide +kernel
theorem dX1_doTwoOperands_114 : decode cX1_doTwoOperands 114 = .ok (.getfield 31, 3) := by decide +kernel
theorem dX1_doTwoOperands_117 : decode cX1_doTwoOperands 117 = .ok (.iconst 1, 1) := by decide +kernel
theorem dX1_doTwoOperands_118 : decode cX1_doTwoOperands 118 = .ok (.iadd, 1) := by decide +kernel
theorem dX1_doTwoOperands_119 : decode cX1_doTwoOperands 119 = .ok (.putfield 31, 3) := by decide +kernel
theorem dX1_doTwoOperands_122 : decode cX1_doTwoOperands 122 = .ok (.iload 6, 2) := by decide +kernel
theorem dX1_doTwoOperands_124 : decode cX1_doTwoOperands 124 = .ok (.iconst 1, 1) := by decide +kernel
theorem dX1_doTwoOperands_125 : decode cX1_doTwoOperands 125 = .ok (.if_icmp .ne 28, 3) := by decide +kernel
theorem dX1_doTwoOperands_128 : decode cX1_doTwoOperands 128 = .ok (.iload_n 3, 1) := by decide +kernel
theorem dX1_doTwoOperands_129 : decode cX1_doTwoOperands 129 = .ok (.ifCond .eq 24, 3) := by decide +kernel
theorem dX1_doTwoOperands_132 : decode cX1_doTwoOperands 132 = .ok (.aload_n 0, 1) := by decide +kernel
theorem dX1_doTwoOperands_133 : decode cX1_doTwoOperands 133 = .ok (.getfield 34, 3) := by decide +kernel
theorem dX1_doTwoOperands_136 : decode cX1_doTwoOperands 136 = .ok (.iconst (-1), 1) := by decide +kernel
theorem dX1_doTwoOperands_137 : decode cX1_doTwoOperands 137 = .ok (.if_icmp .ne 16, 3) := by decide +kernel
theorem dX1_doTwoOperands_140 : decode cX1_doTwoOperands 140 = .ok (.aload_n 0, 1) := by decide +kernel
theorem dX1_doTwoOperands_141 : decode cX1_doTwoOperands 141 = .ok (.iload_n 1, 1) := by decide +kernel
theorem dX1_doTwoOperands_142 : decode cX1_doTwoOperands 142 = .ok (.bipush 7, 2) := by decide +kernel
theorem dX1_doTwoOperands_144 : decode cX1_doTwoOperands 144 = .ok (.iand, 1) := by decide +kernel
theorem dX1_doTwoOperands_145 : decode cX1_doTwoOperands 145 = .ok (.iload 7, 2) := by decide +kernel
theorem dX1_doTwoOperands_147 : decode cX1_doTwoOperands 147 = .ok (.invokevirtual 116, 3) := by decide +kernel
theorem dX1_doTwoOperands_150 : decode cX1_doTwoOperands 150 = .ok (.goto 26, 3) := by decide +kernel
theorem dX1_doTwoOperands_153 : decode cX1_doTwoOperands 153 = .ok (.iload 6, 2) := by decide +kernel
theorem dX1_doTwoOperands_155 : decode cX1_doTwoOperands 155 = .ok (.iconst 2, 1) := by decide +kernel
theorem dX1_doTwoOperands_156 : decode cX1_doTwoOperands 156 = .ok (.if_icmp .eq 20, 3) := by decide +kernel
theorem dX1_doTwoOperands_159 : decode cX1_doTwoOperands 159 = .ok (.iload 6, 2) := by decide +kernel
theorem dX1_doTwoOperands_161 : decode cX1_doTwoOperands 161 = .ok (.iconst 3, 1) := by decide +kernel
theorem dX1_doTwoOperands_162 : decode cX1_doTwoOperands 162 = .ok (.if_icmp .eq 14, 3) := by decide +kernel
theorem dX1_doTwoOperands_165 : decode cX1_doTwoOperands 165 = .ok (.aload_n 0, 1) := by decide +kernel
theorem dX1_doTwoOperands_166 : decode cX1_doTwoOperands 166 = .ok (.iload_n 1, 1) := by decide +kernel
theorem dX1_doTwoOperands_167 : decode cX1_doTwoOperands 167 = .ok (.bipush 7, 2) := by decide +kernel
theorem dX1_doTwoOperands_169 : decode cX1_doTwoOperands 169 = .ok (.iand, 1) := by decide +kernel
theorem dX1_doTwoOperands_170 : decode cX1_doTwoOperands 170 = .ok (.iload 7, 2) := by decide +kernel
theorem dX1_doTwoOperands_172 : decode cX1_doTwoOperands 172 = .ok (.iload_n 3, 1) := by decide +kernel
theorem dX1_doTwoOperands_173 : decode cX1_doTwoOperands 173 = .ok (.invokevirtual 120, 3) := by decide +kernel
theorem dX1_doTwoOperands_176 : decode cX1_doTwoOperands 176 = .ok (.return_, 1) := by decide +kernel
theorem dX1_readOperand_0 : decode cX1_readOperand 0 = .ok (.iload_n 1, 1) := by decide +kernel
theorem dX1_readOperand_1 : decode cX1_readOperand 1 = .ok (.iconst 3, 1) := by decide +kernel
theorem dX1_readOperand_2 : decode cX1_readOperand 2 = .ok (.ishr, 1) := by decide +kernel
theorem dX1_readOperand_3 : decode cX1_readOperand 3 = .ok (.istore_n 3, 1) := by decide +kernel
theorem dX1_readOperand_4 : decode cX1_readOperand 4 = .ok (.iload_n 1, 1) := by decide +kernel
theorem dX1_readOperand_5 : decode cX1_readOperand 5 = .ok (.bipush 7, 2) := by decide +kernel
theorem dX1_readOperand_7 : decode cX1_readOperand 7 = .ok (.iand, 1) := by decide +kernel
theorem dX1_readOperand_8 : decode cX1_readOperand 8 = .ok (.istore 4, 2) := by decide +kernel
theorem dX1_readOperand_10 : decode cX1_readOperand 10 = .ok (.aload_n 0, 1) := by decide +kernel
theorem dX1_readOperand_11 : decode cX1_readOperand 11 = .ok (.dup, 1) := by decide +kernel
theorem dX1_readOperand_12 : decode cX1_readOperand 12 = .ok (.getfield 31, 3) := by decide +kernel
theorem dX1_readOperand_15 : decode cX1_readOperand 15 = .ok (.getstatic 143, 3) := by decide +kernel
theorem dX1_readOperand_18 : decode cX1_readOperand 18 = .ok (.iload_n 3, 1) := by decide +kernel
theorem dX1_readOperand_19 : decode cX1_readOperand 19 = .ok (.iaload, 1) := by decide +kernel
theorem dX1_readOperand_20 : decode cX1_readOperand 20 = .ok (.iadd, 1) := by decide +kernel
theorem dX1_readOperand_21 : decode cX1_readOperand 21 = .ok (.putfield 31, 3) := by decide +kernel
theorem dX1_readOperand_24 : decode cX1_readOperand 24 = .ok (.iload_n 3, 1) := by decide +kernel
theorem dX1_readOperand_25 : decode cX1_readOperand 25 = .ok (.ifCond .ne 34, 3) := by decide +kernel
theorem dX1_readOperand_28 : decode cX1_readOperand 28 = .ok (.aload_n 0, 1) := by decide +kernel
theorem dX1_readOperand_29 : decode cX1_readOperand 29 = .ok (.iconst (-1), 1) := by decide +kernel
theorem dX1_readOperand_30 : decode cX1_readOperand 30 = .ok (.putfield 34, 3) := by decide +kernel
theorem dX1_readOperand_33 : decode cX1_readOperand 33 = .ok (.iload_n 2, 1) := by decide +kernel
theorem dX1_readOperand_34 : decode cX1_readOperand 34 = .ok (.ifCond .eq 17, 3) := by decide +kernel
theorem dX1_readOperand_37 : decode cX1_readOperand 37 = .ok (.aload_n 0, 1) := by decide +kernel
theorem dX1_readOperand_38 : decode cX1_readOperand 38 = .ok (.getfield 13, 3) := by decide +kernel
theorem dX1_readOperand_41 : decode cX1_readOperand 41 = .ok (.iload 4, 2) := by decide +kernel
theorem dX1_readOperand_43 : decode cX1_readOperand 43 = .ok (.iaload, 1) := by decide +kernel
theorem dX1_readOperand_44 : decode cX1_readOperand 44 = .ok (.sipush 255, 3) := by decide +kernel
theorem dX1_readOperand_47 : decode cX1_readOperand 47 = .ok (.iand, 1) := by decide +kernel
theorem dX1_readOperand_48 : decode cX1_readOperand 48 = .ok (.goto 10, 3) := by decide +kernel
theorem dX1_readOperand_51 : decode cX1_readOperand 51 = .ok (.aload_n 0, 1) := by decide +kernel
theorem dX1_readOperand_52 : decode cX1_readOperand 52 = .ok (.getfield 13, 3) := by decide +kernel
theorem dX1_readOperand_55 : decode cX1_readOperand 55 = .ok (.iload 4, 2) := by decide +kernel
theorem dX1_readOperand_57 : decode cX1_readOperand 57 = .ok (.iaload, 1) := by decide +kernel
theorem dX1_readOperand_58 : decode cX1_readOperand 58 = .ok (.ireturn, 1) := by decide +kernel
theorem dX1_readOperand_59 : decode cX1_readOperand 59 = .ok (.aload_n 0, 1) := by decide +kernel
theorem dX1_readOperand_60 : decode cX1_readOperand 60 = .ok (.aload_n 0, 1) := by decide +kernel
theorem dX1_readOperand_61 : decode cX1_readOperand 61 = .ok (.iload_n 3, 1) := by decide +kernel
theorem dX1_readOperand_62 : decode cX1_readOperand 62 = .ok (.iload 4, 2) := by decide +kernel
theorem dX1_readOperand_64 : decode cX1_readOperand 64 = .ok (.iload_n 2, 1) := by decide +kernel
theorem dX1_readOperand_65 : decode cX1_readOperand 65 = .ok (.ifCond .eq 14, 3) := by decide +kernel
