theorem dX2_init_0 : decode cX2_init 0 = .ok (.aload_n 0, 1) := by decide +kernel
theorem dX2_init_1 : decode cX2_init 1 = .ok (.invokespecial 1, 3) := by decide +kernel
theorem dX2_init_4 : decode cX2_init 4 = .ok (.aload_n 0, 1) := by decide +kernel
theorem dX2_init_5 : decode cX2_init 5 = .ok (.sipush 2048, 3) := by decide +kernel
theorem dX2_init_8 : decode cX2_init 8 = .ok (.newarray .int, 2) := by decide +kernel
theorem dX2_init_10 : decode cX2_init 10 = .ok (.putfield 7, 3) := by decide +kernel
theorem dX2_init_13 : decode cX2_init 13 = .ok (.aload_n 0, 1) := by decide +kernel
theorem dX2_init_14 : decode cX2_init 14 = .ok (.bipush 8, 2) := by decide +kernel
theorem dX2_init_16 : decode cX2_init 16 = .ok (.newarray .int, 2) := by decide +kernel
theorem dX2_init_18 : decode cX2_init 18 = .ok (.putfield 13, 3) := by decide +kernel
theorem dX2_init_21 : decode cX2_init 21 = .ok (.return_, 1) := by decide +kernel
theorem dX2_poke_0 : decode cX2_poke 0 = .ok (.iload_n 1, 1) := by decide +kernel
theorem dX2_poke_1 : decode cX2_poke 1 = .ok (.ifCond .lt 16, 3) := by decide +kernel
theorem dX2_poke_4 : decode cX2_poke 4 = .ok (.iload_n 1, 1) := by decide +kernel
theorem dX2_poke_5 : decode cX2_poke 5 = .ok (.sipush 4096, 3) := by decide +kernel
theorem dX2_poke_8 : decode cX2_poke 8 = .ok (.if_icmp .ge 9, 3) := by decide +kernel
theorem dX2_poke_11 : decode cX2_poke 11 = .ok (.iload_n 1, 1) := by decide +kernel
theorem dX2_poke_12 : decode cX2_poke 12 = .ok (.iconst 2, 1) := by decide +kernel
theorem dX2_poke_13 : decode cX2_poke 13 = .ok (.irem, 1) := by decide +kernel
theorem dX2_poke_14 : decode cX2_poke 14 = .ok (.ifCond .eq 5, 3) := by decide +kernel
theorem dX2_poke_17 : decode cX2_poke 17 = .ok (.iconst 0, 1) := by decide +kernel
theorem dX2_poke_18 : decode cX2_poke 18 = .ok (.ireturn, 1) := by decide +kernel
theorem dX2_poke_19 : decode cX2_poke 19 = .ok (.aload_n 0, 1) := by decide +kernel
theorem dX2_poke_20 : decode cX2_poke 20 = .ok (.getfield 7, 3) := by decide +kernel
theorem dX2_poke_23 : decode cX2_poke 23 = .ok (.iload_n 1, 1) := by decide +kernel
theorem dX2_poke_24 : decode cX2_poke 24 = .ok (.iconst 2, 1) := by decide +kernel
theorem dX2_poke_25 : decode cX2_poke 25 = .ok (.idiv, 1) := by decide +kernel
theorem dX2_poke_26 : decode cX2_poke 26 = .ok (.iload_n 2, 1) := by decide +kernel
theorem dX2_poke_27 : decode cX2_poke 27 = .ok (.ldc 16, 2) := by decide +kernel
theorem dX2_poke_29 : decode cX2_poke 29 = .ok (.iand, 1) := by decide +kernel
theorem dX2_poke_30 : decode cX2_poke 30 = .ok (.iastore, 1) := by decide +kernel
theorem dX2_poke_31 : decode cX2_poke 31 = .ok (.iconst 1, 1) := by decide +kernel
theorem dX2_poke_32 : decode cX2_poke 32 = .ok (.ireturn, 1) := by decide +kernel
theorem dX2_peek_0 : decode cX2_peek 0 = .ok (.iload_n 1, 1) := by decide +kernel
theorem dX2_peek_1 : decode cX2_peek 1 = .ok (.ifCond .lt 16, 3) := by decide +kernel
theorem dX2_peek_4 : decode cX2_peek 4 = .ok (.iload_n 1, 1) := by decide +kernel
theorem dX2_peek_5 : decode cX2_peek 5 = .ok (.sipush 4096, 3) := by decide +kernel
theorem dX2_peek_8 : decode cX2_peek 8 = .ok (.if_icmp .ge 9, 3) := by decide +kernel
theorem dX2_peek_11 : decode cX2_peek 11 = .ok (.iload_n 1, 1) := by decide +kernel
theorem dX2_peek_12 : decode cX2_peek 12 = .ok (.iconst 2, 1) := by decide +kernel
theorem dX2_peek_13 : decode cX2_peek 13 = .ok (.irem, 1) := by decide +kernel
theorem dX2_peek_14 : decode cX2_peek 14 = .ok (.ifCond .eq 7, 3) := by decide +kernel
theorem dX2_peek_17 : decode cX2_peek 17 = .ok (.iconst (-1), 1) := by decide +kernel
theorem dX2_peek_18 : decode cX2_peek 18 = .ok (.goto 11, 3) := by decide +kernel
theorem dX2_peek_21 : decode cX2_peek 21 = .ok (.aload_n 0, 1) := by decide +kernel
theorem dX2_peek_22 : decode cX2_peek 22 = .ok (.getfield 7, 3) := by decide +kernel
theorem dX2_peek_25 : decode cX2_peek 25 = .ok (.iload_n 1, 1) := by decide +kernel
theorem dX2_peek_26 : decode cX2_peek 26 = .ok (.iconst 2, 1) := by decide +kernel
theorem dX2_peek_27 : decode cX2_peek 27 = .ok (.idiv, 1) := by decide +kernel
theorem dX2_peek_28 : decode cX2_peek 28 = .ok (.iaload, 1) := by decide +kernel
theorem dX2_peek_29 : decode cX2_peek 29 = .ok (.ireturn, 1) := by decide +kernel
theorem dX2_set_0 : decode cX2_set 0 = .ok (.iload_n 1, 1) := by decide +kernel
theorem dX2_set_1 : decode cX2_set 1 = .ok (.ifCond .lt 9, 3) := by decide +kernel
theorem dX2_set_4 : decode cX2_set 4 = .ok (.iload_n 1, 1) := by decide +kernel
theorem dX2_set_5 : decode cX2_set 5 = .ok (.bipush 7, 2) := by decide +kernel
theorem dX2_set_7 : decode cX2_set 7 = .ok (.if_icmp .le 5, 3) := by decide +kernel
theorem dX2_set_10 : decode cX2_set 10 = .ok (.iconst 0, 1) := by decide +kernel
theorem dX2_set_11 : decode cX2_set 11 = .ok (.ireturn, 1) := by decide +kernel
theorem dX2_set_12 : decode cX2_set 12 = .ok (.aload_n 0, 1) := by decide +kernel
theorem dX2_set_13 : decode cX2_set 13 = .ok (.getfield 13, 3) := by decide +kernel
theorem dX2_set_16 : decode cX2_set 16 = .ok (.iload_n 1, 1) := by decide +kernel
theorem dX2_set_17 : decode cX2_set 17 = .ok (.iload_n 2, 1) := by decide +kernel
theorem dX2_set_18 : decode cX2_set 18 = .ok (.ldc 16, 2) := by decide +kernel
theorem dX2_set_20 : decode cX2_set 20 = .ok (.iand, 1) := by decide +kernel
theorem dX2_set_21 : decode cX2_set 21 = .ok (.iastore, 1) := by decide +kernel
theorem dX2_set_22 : decode cX2_set 22 = .ok (.iconst 1, 1) := by decide +kernel
theorem dX2_set_23 : decode cX2_set 23 = .ok (.ireturn, 1) := by decide +kernel
theorem dX2_register_0 : decode cX2_register 0 = .ok (.iload_n 1, 1) := by decide +kernel
theorem dX2_register_1 : decode cX2_register 1 = .ok (.ifCond .lt 9, 3) := by decide +kernel
theorem dX2_register_4 : decode cX2_register 4 = .ok (.iload_n 1, 1) := by decide +kernel
theorem dX2_register_5 : decode cX2_register 5 = .ok (.bipush 7, 2) := by decide +kernel
theorem dX2_register_7 : decode cX2_register 7 = .ok (.if_icmp .le 7, 3) := by decide +kernel
theorem dX2_register_10 : decode cX2_register 10 = .ok (.iconst (-1), 1) := by decide +kernel
theorem dX2_register_11 : decode cX2_register 11 = .ok (.goto 9, 3) := by decide +kernel
theorem dX2_register_14 : decode cX2_register 14 = .ok (.aload_n 0, 1) := by decide +kernel
theorem dX2_register_15 : decode cX2_register 15 = .ok (.getfield 13, 3) := by decide +kernel
theorem dX2_register_18 : decode cX2_register 18 = .ok (.iload_n 1, 1) := by decide +kernel
theorem dX2_register_19 : decode cX2_register 19 = .ok (.iaload, 1) := by decide +kernel
theorem dX2_register_20 : decode cX2_register 20 = .ok (.ireturn, 1) := by decide +kernel
theorem dX2_flags_0 : decode cX2_flags 0 = .ok (.aload_n 0, 1) := by decide +kernel
theorem dX2_flags_1 : decode cX2_flags 1 = .ok (.getfield 17, 3) := by decide +kernel
theorem dX2_flags_4 : decode cX2_flags 4 = .ok (.ireturn, 1) := by decide +kernel
theorem dX2_cycles_0 : decode cX2_cycles 0 = .ok (.aload_n 0, 1) := by decide +kernel
theorem dX2_cycles_1 : decode cX2_cycles 1 = .ok (.getfield 21, 3) := by decide +kernel
theorem dX2_cycles_4 : decode cX2_cycles 4 = .ok (.lreturn, 1) := by decide +kernel
theorem dX2_stopped_0 : decode cX2_stopped 0 = .ok (.aload_n 0, 1) := by decide +kernel
theorem dX2_stopped_1 : decode cX2_stopped 1 = .ok (.getfield 25, 3) := by decide +kernel
theorem dX2_stopped_4 : decode cX2_stopped 4 = .ok (.ireturn, 1) := by decide +kernel
theorem dX2_go_0 : decode cX2_go 0 = .ok (.aload_n 0, 1) := by decide +kernel
theorem dX2_go_1 : decode cX2_go 1 = .ok (.getfield 25, 3) := by decide +kernel
theorem dX2_go_4 : decode cX2_go 4 = .ok (.ifCond .le 7, 3) := by decide +kernel
theorem dX2_go_7 : decode cX2_go 7 = .ok (.iconst 1, 1) := by decide +kernel
theorem dX2_go_8 : decode cX2_go 8 = .ok (.goto 4, 3) := by decide +kernel
theorem dX2_go_11 : decode cX2_go 11 = .ok (.iconst 0, 1) := by decide +kernel
theorem dX2_go_12 : decode cX2_go 12 = .ok (.istore_n 1, 1) := by decide +kernel
theorem dX2_go_13 : decode cX2_go 13 = .ok (.aload_n 0, 1) := by decide +kernel
theorem dX2_go_14 : decode cX2_go 14 = .ok (.iconst 0, 1) := by decide +kernel
theorem dX2_go_15 : decode cX2_go 15 = .ok (.putfield 25, 3) := by decide +kernel
theorem dX2_go_18 : decode cX2_go 18 = .ok (.iload_n 1, 1) := by decide +kernel
theorem dX2_go_19 : decode cX2_go 19 = .ok (.ireturn, 1) := by decide +kernel
theorem dX2_step_0 : decode cX2_step 0 = .ok (.aload_n 0, 1) := by decide +kernel
theorem dX2_step_1 : decode cX2_step 1 = .ok (.getfield 25, 3) := by decide +kernel
theorem dX2_step_4 : decode cX2_step 4 = .ok (.ifCond .le 5, 3) := by decide +kernel
theorem dX2_step_7 : decode cX2_step 7 = .ok (.iconst (-1), 1) := by decide +kernel
theorem dX2_step_8 : decode cX2_step 8 = .ok (.ireturn, 1) := by decide +kernel
theorem dX2_step_9 : decode cX2_step 9 = .ok (.aload_n 0, 1) := by decide +kernel
theorem dX2_step_10 : decode cX2_step 10 = .ok (.iconst 2, 1) := by decide +kernel
theorem dX2_step_11 : decode cX2_step 11 = .ok (.putfield 39, 3) := by decide +kernel
theorem dX2_step_14 : decode cX2_step 14 = .ok (.aload_n 0, 1) := by decide +kernel
theorem dX2_step_15 : decode cX2_step 15 = .ok (.invokevirtual 42, 3) := by decide +kernel
theorem dX2_step_18 : decode cX2_step 18 = .ok (.istore_n 1, 1) := by decide +kernel
theorem dX2_step_19 : decode cX2_step 19 = .ok (.aload_n 0, 1) := by decide +kernel
theorem dX2_step_20 : decode cX2_step 20 = .ok (.getfield 25, 3) := by decide +kernel
theorem dX2_step_23 : decode cX2_step 23 = .ok (.ifCond .le 5, 3) := by decide +kernel
theorem dX2_step_26 : decode cX2_step 26 = .ok (.iconst (-1), 1) := by decide +kernel
theorem dX2_step_27 : decode cX2_step 27 = .ok (.ireturn, 1) := by decide +kernel
theorem dX2_step_28 : decode cX2_step 28 = .ok (.iload_n 1, 1) := by decide +kernel
theorem dX2_step_29 : decode cX2_step 29 = .ok (.bipush 12, 2) := by decide +kernel
theorem dX2_step_31 : decode cX2_step 31 = .ok (.ishr, 1) := by decide +kernel
theorem dX2_step_32 : decode cX2_step 32 = .ok (.istore_n 2, 1) := by decide +kernel
theorem dX2_step_33 : decode cX2_step 33 = .ok (.iload_n 1, 1) := by decide +kernel
theorem dX2_step_34 : decode cX2_step 34 = .ok (.bipush 9, 2) := by decide +kernel
theorem dX2_step_36 : decode cX2_step 36 = .ok (.ishr, 1) := by decide +kernel
theorem dX2_step_37 : decode cX2_step 37 = .ok (.bipush 63, 2) := by decide +kernel
theorem dX2_step_39 : decode cX2_step 39 = .ok (.if_icmp .ne 11, 3) := by decide +kernel
theorem dX2_step_42 : decode cX2_step 42 = .ok (.aload_n 0, 1) := by decide +kernel
theorem dX2_step_43 : decode cX2_step 43 = .ok (.iload_n 1, 1) := by decide +kernel
theorem dX2_step_44 : decode cX2_step 44 = .ok (.invokevirtual 99, 3) := by decide +kernel
theorem dX2_step_47 : decode cX2_step 47 = .ok (.goto 46, 3) := by decide +kernel
theorem dX2_step_50 : decode cX2_step 50 = .ok (.iload_n 2, 1) := by decide +kernel
theorem dX2_step_51 : decode cX2_step 51 = .ok (.bipush 7, 2) := by decide +kernel
theorem dX2_step_53 : decode cX2_step 53 = .ok (.if_icmp .eq 9, 3) := by decide +kernel
theorem dX2_step_56 : decode cX2_step 56 = .ok (.iload_n 2, 1) := by decide +kernel
theorem dX2_step_57 : decode cX2_step 57 = .ok (.bipush 15, 2) := by decide +kernel
theorem dX2_step_59 : decode cX2_step 59 = .ok (.if_icmp .ne 11, 3) := by decide +kernel
theorem dX2_step_62 : decode cX2_step 62 = .ok (.aload_n 0, 1) := by decide +kernel
theorem dX2_step_63 : decode cX2_step 63 = .ok (.iconst 2, 1) := by decide +kernel
theorem dX2_step_64 : decode cX2_step 64 = .ok (.putfield 25, 3) := by decide +kernel
theorem dX2_step_67 : decode cX2_step 67 = .ok (.goto 26, 3) := by decide +kernel
theorem dX2_step_70 : decode cX2_step 70 = .ok (.iload_n 2, 1) := by decide +kernel
theorem dX2_step_71 : decode cX2_step 71 = .ok (.ifCond .eq 9, 3) := by decide +kernel
theorem dX2_step_74 : decode cX2_step 74 = .ok (.iload_n 2, 1) := by decide +kernel
theorem dX2_step_75 : decode cX2_step 75 = .ok (.bipush 8, 2) := by decide +kernel
theorem dX2_step_77 : decode cX2_step 77 = .ok (.if_icmp .ne 11, 3) := by decide +kernel
theorem dX2_step_80 : decode cX2_step 80 = .ok (.aload_n 0, 1) := by decide +kernel
theorem dX2_step_81 : decode cX2_step 81 = .ok (.iload_n 1, 1) := by decide +kernel
theorem dX2_step_82 : decode cX2_step 82 = .ok (.invokevirtual 102, 3) := by decide +kernel
theorem dX2_step_85 : decode cX2_step 85 = .ok (.goto 8, 3) := by decide +kernel
theorem dX2_step_88 : decode cX2_step 88 = .ok (.aload_n 0, 1) := by decide +kernel
theorem dX2_step_89 : decode cX2_step 89 = .ok (.iload_n 1, 1) := by decide +kernel
theorem dX2_step_90 : decode cX2_step 90 = .ok (.invokevirtual 105, 3) := by decide +kernel
theorem dX2_step_93 : decode cX2_step 93 = .ok (.aload_n 0, 1) := by decide +kernel
theorem dX2_step_94 : decode cX2_step 94 = .ok (.getfield 25, 3) := by decide +kernel
theorem dX2_step_97 : decode cX2_step 97 = .ok (.ifCond .le 5, 3) := by decide +kernel
theorem dX2_step_100 : decode cX2_step 100 = .ok (.iconst (-1), 1) := by decide +kernel
theorem dX2_step_101 : decode cX2_step 101 = .ok (.ireturn, 1) := by decide +kernel
theorem dX2_step_102 : decode cX2_step 102 = .ok (.aload_n 0, 1) := by decide +kernel
theorem dX2_step_103 : decode cX2_step 103 = .ok (.dup, 1) := by decide +kernel
theorem dX2_step_104 : decode cX2_step 104 = .ok (.getfield 21, 3) := by decide +kernel
theorem dX2_step_107 : decode cX2_step 107 = .ok (.aload_n 0, 1) := by decide +kernel
theorem dX2_step_108 : decode cX2_step 108 = .ok (.getfield 39, 3) := by decide +kernel
theorem dX2_step_111 : decode cX2_step 111 = .ok (.i2l, 1) := by decide +kernel
theorem dX2_step_112 : decode cX2_step 112 = .ok (.ladd, 1) := by decide +kernel
theorem dX2_step_113 : decode cX2_step 113 = .ok (.putfield 21, 3) := by decide +kernel
theorem dX2_step_116 : decode cX2_step 116 = .ok (.aload_n 0, 1) := by decide +kernel
theorem dX2_step_117 : decode cX2_step 117 = .ok (.getfield 39, 3) := by decide +kernel
theorem dX2_step_120 : decode cX2_step 120 = .ok (.ireturn, 1) := by decide +kernel
theorem dX2_following_0 : decode cX2_following 0 = .ok (.aload_n 0, 1) := by decide +kernel
theorem dX2_following_1 : decode cX2_following 1 = .ok (.getfield 13, 3) := by decide +kernel
theorem dX2_following_4 : decode cX2_following 4 = .ok (.bipush 7, 2) := by decide +kernel
theorem dX2_following_6 : decode cX2_following 6 = .ok (.iaload, 1) := by decide +kernel
theorem dX2_following_7 : decode cX2_following 7 = .ok (.istore_n 1, 1) := by decide +kernel
theorem dX2_following_8 : decode cX2_following 8 = .ok (.aload_n 0, 1) := by decide +kernel
theorem dX2_following_9 : decode cX2_following 9 = .ok (.bipush 7, 2) := by decide +kernel
theorem dX2_following_11 : decode cX2_following 11 = .ok (.iconst 2, 1) := by decide +kernel
theorem dX2_following_12 : decode cX2_following 12 = .ok (.invokevirtual 28, 3) := by decide +kernel
theorem dX2_following_15 : decode cX2_following 15 = .ok (.aload_n 0, 1) := by decide +kernel
theorem dX2_following_16 : decode cX2_following 16 = .ok (.iload_n 1, 1) := by decide +kernel
theorem dX2_following_17 : decode cX2_following 17 = .ok (.invokevirtual 32, 3) := by decide +kernel
theorem dX2_following_20 : decode cX2_following 20 = .ok (.ireturn, 1) := by decide +kernel
theorem dX2_add_0 : decode cX2_add 0 = .ok (.aload_n 0, 1) := by decide +kernel
theorem dX2_add_1 : decode cX2_add 1 = .ok (.getfield 13, 3) := by decide +kernel
theorem dX2_add_4 : decode cX2_add 4 = .ok (.iload_n 1, 1) := by decide +kernel
theorem dX2_add_5 : decode cX2_add 5 = .ok (.aload_n 0, 1) := by decide +kernel
theorem dX2_add_6 : decode cX2_add 6 = .ok (.getfield 13, 3) := by decide +kernel
theorem dX2_add_9 : decode cX2_add 9 = .ok (.iload_n 1, 1) := by decide +kernel
theorem dX2_add_10 : decode cX2_add 10 = .ok (.iaload, 1) := by decide +kernel
theorem dX2_add_11 : decode cX2_add 11 = .ok (.iload_n 2, 1) := by decide +kernel
theorem dX2_add_12 : decode cX2_add 12 = .ok (.iadd, 1) := by decide +kernel
theorem dX2_add_13 : decode cX2_add 13 = .ok (.ldc 16, 2) := by decide +kernel
theorem dX2_add_15 : decode cX2_add 15 = .ok (.iand, 1) := by decide +kernel
theorem dX2_add_16 : decode cX2_add 16 = .ok (.iastore, 1) := by decide +kernel
theorem dX2_add_17 : decode cX2_add 17 = .ok (.return_, 1) := by decide +kernel
theorem dX2_word_0 : decode cX2_word 0 = .ok (.aload_n 0, 1) := by decide +kernel
theorem dX2_word_1 : decode cX2_word 1 = .ok (.getfield 25, 3) := by decide +kernel
theorem dX2_word_4 : decode cX2_word 4 = .ok (.ifCond .le 5, 3) := by decide +kernel
theorem dX2_word_7 : decode cX2_word 7 = .ok (.iconst 0, 1) := by decide +kernel
theorem dX2_word_8 : decode cX2_word 8 = .ok (.ireturn, 1) := by decide +kernel
theorem dX2_word_9 : decode cX2_word 9 = .ok (.aload_n 0, 1) := by decide +kernel
theorem dX2_word_10 : decode cX2_word 10 = .ok (.iload_n 1, 1) := by decide +kernel
theorem dX2_word_11 : decode cX2_word 11 = .ok (.iconst 2, 1) := by decide +kernel
theorem dX2_word_12 : decode cX2_word 12 = .ok (.irem, 1) := by decide +kernel
theorem dX2_word_13 : decode cX2_word 13 = .ok (.ifCond .eq 7, 3) := by decide +kernel
theorem dX2_word_16 : decode cX2_word 16 = .ok (.iconst 3, 1) := by decide +kernel
theorem dX2_word_17 : decode cX2_word 17 = .ok (.goto 15, 3) := by decide +kernel
theorem dX2_word_20 : decode cX2_word 20 = .ok (.iload_n 1, 1) := by decide +kernel
theorem dX2_word_21 : decode cX2_word 21 = .ok (.sipush 4096, 3) := by decide +kernel
theorem dX2_word_24 : decode cX2_word 24 = .ok (.if_icmp .lt 7, 3) := by decide +kernel
theorem dX2_word_27 : decode cX2_word 27 = .ok (.iconst 4, 1) := by decide +kernel
theorem dX2_word_28 : decode cX2_word 28 = .ok (.goto 4, 3) := by decide +kernel
theorem dX2_word_31 : decode cX2_word 31 = .ok (.iconst 0, 1) := by decide +kernel
theorem dX2_word_32 : decode cX2_word 32 = .ok (.putfield 25, 3) := by decide +kernel
theorem dX2_word_35 : decode cX2_word 35 = .ok (.aload_n 0, 1) := by decide +kernel
theorem dX2_word_36 : decode cX2_word 36 = .ok (.getfield 25, 3) := by decide +kernel
theorem dX2_word_39 : decode cX2_word 39 = .ok (.ifCond .le 7, 3) := by decide +kernel
theorem dX2_word_42 : decode cX2_word 42 = .ok (.iconst 0, 1) := by decide +kernel
theorem dX2_word_43 : decode cX2_word 43 = .ok (.goto 11, 3) := by decide +kernel
theorem dX2_word_46 : decode cX2_word 46 = .ok (.aload_n 0, 1) := by decide +kernel
theorem dX2_word_47 : decode cX2_word 47 = .ok (.getfield 7, 3) := by decide +kernel
theorem dX2_word_50 : decode cX2_word 50 = .ok (.iload_n 1, 1) := by decide +kernel
theorem dX2_word_51 : decode cX2_word 51 = .ok (.iconst 2, 1) := by decide +kernel
theorem dX2_word_52 : decode cX2_word 52 = .ok (.idiv, 1) := by decide +kernel
theorem dX2_word_53 : decode cX2_word 53 = .ok (.iaload, 1) := by decide +kernel
theorem dX2_word_54 : decode cX2_word 54 = .ok (.ireturn, 1) := by decide +kernel
theorem dX2_count_0 : decode cX2_count 0 = .ok (.iload_n 1, 1) := by decide +kernel
theorem dX2_count_1 : decode cX2_count 1 = .ok (.bipush 6, 2) := by decide +kernel
theorem dX2_count_3 : decode cX2_count 3 = .ok (.ishr, 1) := by decide +kernel
theorem dX2_count_4 : decode cX2_count 4 = .ok (.bipush 7, 2) := by decide +kernel
theorem dX2_count_6 : decode cX2_count 6 = .ok (.iand, 1) := by decide +kernel
theorem dX2_count_7 : decode cX2_count 7 = .ok (.istore_n 2, 1) := by decide +kernel
theorem dX2_count_8 : decode cX2_count 8 = .ok (.aload_n 0, 1) := by decide +kernel
theorem dX2_count_9 : decode cX2_count 9 = .ok (.iload_n 2, 1) := by decide +kernel
theorem dX2_count_10 : decode cX2_count 10 = .ok (.iconst (-1), 1) := by decide +kernel
theorem dX2_count_11 : decode cX2_count 11 = .ok (.invokevirtual 28, 3) := by decide +kernel
theorem dX2_count_14 : decode cX2_count 14 = .ok (.aload_n 0, 1) := by decide +kernel
theorem dX2_count_15 : decode cX2_count 15 = .ok (.dup, 1) := by decide +kernel
theorem dX2_count_16 : decode cX2_count 16 = .ok (.getfield 39, 3) := by decide +kernel
theorem dX2_count_19 : decode cX2_count 19 = .ok (.iconst 2, 1) := by decide +kernel
theorem dX2_count_20 : decode cX2_count 20 = .ok (.iadd, 1) := by decide +kernel
theorem dX2_count_21 : decode cX2_count 21 = .ok (.putfield 39, 3) := by decide +kernel
theorem dX2_count_24 : decode cX2_count 24 = .ok (.aload_n 0, 1) := by decide +kernel
theorem dX2_count_25 : decode cX2_count 25 = .ok (.getfield 13, 3) := by decide +kernel
theorem dX2_count_28 : decode cX2_count 28 = .ok (.iload_n 2, 1) := by decide +kernel
theorem dX2_count_29 : decode cX2_count 29 = .ok (.iaload, 1) := by decide +kernel
theorem dX2_count_30 : decode cX2_count 30 = .ok (.ifCond .ne 4, 3) := by decide +kernel
theorem dX2_count_33 : decode cX2_count 33 = .ok (.return_, 1) := by decide +kernel
theorem dX2_count_34 : decode cX2_count 34 = .ok (.aload_n 0, 1) := by decide +kernel
theorem dX2_count_35 : decode cX2_count 35 = .ok (.dup, 1) := by decide +kernel
theorem dX2_count_36 : decode cX2_count 36 = .ok (.getfield 39, 3) := by decide +kernel
theorem dX2_count_39 : decode cX2_count 39 = .ok (.iconst 1, 1) := by decide +kernel
theorem dX2_count_40 : decode cX2_count 40 = .ok (.iadd, 1) := by decide +kernel
theorem dX2_count_41 : decode cX2_count 41 = .ok (.putfield 39, 3) := by decide +kernel
theorem dX2_count_44 : decode cX2_count 44 = .ok (.aload_n 0, 1) := by decide +kernel
theorem dX2_count_45 : decode cX2_count 45 = .ok (.bipush 7, 2) := by decide +kernel
theorem dX2_count_47 : decode cX2_count 47 = .ok (.bipush (-2), 2) := by decide +kernel
theorem dX2_count_49 : decode cX2_count 49 = .ok (.iload_n 1, 1) := by decide +kernel
theorem dX2_count_50 : decode cX2_count 50 = .ok (.bipush 63, 2) := by decide +kernel
theorem dX2_count_52 : decode cX2_count 52 = .ok (.iand, 1) := by decide +kernel
theorem dX2_count_53 : decode cX2_count 53 = .ok (.imul, 1) := by decide +kernel
theorem dX2_count_54 : decode cX2_count 54 = .ok (.invokevirtual 28, 3) := by decide +kernel
theorem dX2_count_57 : decode cX2_count 57 = .ok (.return_, 1) := by decide +kernel
theorem dX2_doOther_0 : decode cX2_doOther 0 = .ok (.iload_n 1, 1) := by decide +kernel
theorem dX2_doOther_1 : decode cX2_doOther 1 = .ok (.bipush 6, 2) := by decide +kernel
theorem dX2_doOther_3 : decode cX2_doOther 3 = .ok (.ishr, 1) := by decide +kernel
theorem dX2_doOther_4 : decode cX2_doOther 4 = .ok (.sipush 511, 3) := by decide +kernel
theorem dX2_doOther_7 : decode cX2_doOther 7 = .ok (.iand, 1) := by decide +kernel
theorem dX2_doOther_8 : decode cX2_doOther 8 = .ok (.istore_n 2, 1) := by decide +kernel
theorem dX2_doOther_9 : decode cX2_doOther 9 = .ok (.iload_n 1, 1) := by decide +kernel
theorem dX2_doOther_10 : decode cX2_doOther 10 = .ok (.sipush 32767, 3) := by decide +kernel
theorem dX2_doOther_13 : decode cX2_doOther 13 = .ok (.if_icmp .le 7, 3) := by decide +kernel
theorem dX2_doOther_16 : decode cX2_doOther 16 = .ok (.iconst 1, 1) := by decide +kernel
theorem dX2_doOther_17 : decode cX2_doOther 17 = .ok (.goto 4, 3) := by decide +kernel
theorem dX2_doOther_20 : decode cX2_doOther 20 = .ok (.iconst 0, 1) := by decide +kernel
theorem dX2_doOther_21 : decode cX2_doOther 21 = .ok (.istore_n 3, 1) := by decide +kernel
theorem dX2_doOther_22 : decode cX2_doOther 22 = .ok (.iload_n 1, 1) := by decide +kernel
theorem dX2_doOther_23 : decode cX2_doOther 23 = .ok (.bipush 8, 2) := by decide +kernel
theorem dX2_doOther_25 : decode cX2_doOther 25 = .ok (.ishr, 1) := by decide +kernel
theorem dX2_doOther_26 : decode cX2_doOther 26 = .ok (.istore 4, 2) := by decide +kernel
theorem dX2_doOther_28 : decode cX2_doOther 28 = .ok (.iload 4, 2) := by decide +kernel
theorem dX2_doOther_30 : decode cX2_doOther 30 = .ok (.ifCond .le 10, 3) := by decide +kernel
theorem dX2_doOther_33 : decode cX2_doOther 33 = .ok (.iload 4, 2) := by decide +kernel
theorem dX2_doOther_35 : decode cX2_doOther 35 = .ok (.bipush 8, 2) := by decide +kernel
theorem dX2_doOther_37 : decode cX2_doOther 37 = .ok (.if_icmp .lt 18, 3) := by decide +kernel
theorem dX2_doOther_40 : decode cX2_doOther 40 = .ok (.iload 4, 2) := by decide +kernel
theorem dX2_doOther_42 : decode cX2_doOther 42 = .ok (.bipush 127, 2) := by decide +kernel
theorem dX2_doOther_44 : decode cX2_doOther 44 = .ok (.if_icmp .le 19, 3) := by decide +kernel
theorem dX2_doOther_47 : decode cX2_doOther 47 = .ok (.iload 4, 2) := by decide +kernel
theorem dX2_doOther_49 : decode cX2_doOther 49 = .ok (.sipush 136, 3) := by decide +kernel
theorem dX2_doOther_52 : decode cX2_doOther 52 = .ok (.if_icmp .ge 11, 3) := by decide +kernel
theorem dX2_doOther_55 : decode cX2_doOther 55 = .ok (.aload_n 0, 1) := by decide +kernel
theorem dX2_doOther_56 : decode cX2_doOther 56 = .ok (.iload_n 1, 1) := by decide +kernel
theorem dX2_doOther_57 : decode cX2_doOther 57 = .ok (.invokevirtual 82, 3) := by decide +kernel
theorem dX2_doOther_60 : decode cX2_doOther 60 = .ok (.goto 129, 3) := by decide +kernel
theorem dX2_doOther_63 : decode cX2_doOther 63 = .ok (.iload_n 2, 1) := by decide +kernel
theorem dX2_doOther_64 : decode cX2_doOther 64 = .ok (.bipush 40, 2) := by decide +kernel
theorem dX2_doOther_66 : decode cX2_doOther 66 = .ok (.if_icmp .lt 19, 3) := by decide +kernel
theorem dX2_doOther_69 : decode cX2_doOther 69 = .ok (.iload_n 2, 1) := by decide +kernel
theorem dX2_doOther_70 : decode cX2_doOther 70 = .ok (.bipush 51, 2) := by decide +kernel
theorem dX2_doOther_72 : decode cX2_doOther 72 = .ok (.if_icmp .gt 13, 3) := by decide +kernel
theorem dX2_doOther_75 : decode cX2_doOther 75 = .ok (.aload_n 0, 1) := by decide +kernel
theorem dX2_doOther_76 : decode cX2_doOther 76 = .ok (.iload_n 1, 1) := by decide +kernel
theorem dX2_doOther_77 : decode cX2_doOther 77 = .ok (.iload_n 2, 1) := by decide +kernel
theorem dX2_doOther_78 : decode cX2_doOther 78 = .ok (.iload_n 3, 1) := by decide +kernel
theorem dX2_doOther_79 : decode cX2_doOther 79 = .ok (.invokevirtual 86, 3) := by decide +kernel
theorem dX2_doOther_82 : decode cX2_doOther 82 = .ok (.goto 107, 3) := by decide +kernel
theorem dX2_doOther_85 : decode cX2_doOther 85 = .ok (.iload_n 3, 1) := by decide +kernel
theorem dX2_doOther_86 : decode cX2_doOther 86 = .ok (.ifCond .eq 11, 3) := by decide +kernel
theorem dX2_doOther_89 : decode cX2_doOther 89 = .ok (.aload_n 0, 1) := by decide +kernel
theorem dX2_doOther_90 : decode cX2_doOther 90 = .ok (.iconst 2, 1) := by decide +kernel
theorem dX2_doOther_91 : decode cX2_doOther 91 = .ok (.putfield 25, 3) := by decide +kernel
theorem dX2_doOther_94 : decode cX2_doOther 94 = .ok (.goto 95, 3) := by decide +kernel
theorem dX2_doOther_97 : decode cX2_doOther 97 = .ok (.iload_n 2, 1) := by decide +kernel
theorem dX2_doOther_98 : decode cX2_doOther 98 = .ok (.iconst 3, 1) := by decide +kernel
theorem dX2_doOther_99 : decode cX2_doOther 99 = .ok (.if_icmp .ne 13, 3) := by decide +kernel
theorem dX2_doOther_102 : decode cX2_doOther 102 = .ok (.aload_n 0, 1) := by decide +kernel
theorem dX2_doOther_103 : decode cX2_doOther 103 = .ok (.iload_n 1, 1) := by decide +kernel
theorem dX2_doOther_104 : decode cX2_doOther 104 = .ok (.iconst 3, 1) := by decide +kernel
theorem dX2_doOther_105 : decode cX2_doOther 105 = .ok (.iconst 0, 1) := by decide +kernel
theorem dX2_doOther_106 : decode cX2_doOther 106 = .ok (.invokevirtual 86, 3) := by decide +kernel
theorem dX2_doOther_109 : decode cX2_doOther 109 = .ok (.goto 80, 3) := by decide +kernel
theorem dX2_doOther_112 : decode cX2_doOther 112 = .ok (.iload_n 2, 1) := by decide +kernel
theorem dX2_doOther_113 : decode cX2_doOther 113 = .ok (.iconst 1, 1) := by decide +kernel
theorem dX2_doOther_114 : decode cX2_doOther 114 = .ok (.if_icmp .eq 10, 3) := by decide +kernel
theorem dX2_doOther_117 : decode cX2_doOther 117 = .ok (.iload_n 2, 1) := by decide +kernel
theorem dX2_doOther_118 : decode cX2_doOther 118 = .ok (.iconst 3, 1) := by decide +kernel
theorem dX2_doOther_119 : decode cX2_doOther 119 = .ok (.ishr, 1) := by decide +kernel
theorem dX2_doOther_120 : decode cX2_doOther 120 = .ok (.iconst 4, 1) := by decide +kernel
theorem dX2_doOther_121 : decode cX2_doOther 121 = .ok (.if_icmp .ne 11, 3) := by decide +kernel
theorem dX2_doOther_124 : decode cX2_doOther 124 = .ok (.aload_n 0, 1) := by decide +kernel
theorem dX2_doOther_125 : decode cX2_doOther 125 = .ok (.iload_n 1, 1) := by decide +kernel
theorem dX2_doOther_126 : decode cX2_doOther 126 = .ok (.invokevirtual 90, 3) := by decide +kernel
theorem dX2_doOther_129 : decode cX2_doOther 129 = .ok (.goto 60, 3) := by decide +kernel
theorem dX2_doOther_132 : decode cX2_doOther 132 = .ok (.iload_n 1, 1) := by decide +kernel
theorem dX2_doOther_133 : decode cX2_doOther 133 = .ok (.sipush 128, 3) := by decide +kernel
theorem dX2_doOther_136 : decode cX2_doOther 136 = .ok (.if_icmp .lt 18, 3) := by decide +kernel
theorem dX2_doOther_139 : decode cX2_doOther 139 = .ok (.iload_n 1, 1) := by decide +kernel
theorem dX2_doOther_140 : decode cX2_doOther 140 = .ok (.sipush 136, 3) := by decide +kernel
theorem dX2_doOther_143 : decode cX2_doOther 143 = .ok (.if_icmp .ge 11, 3) := by decide +kernel
theorem dX2_doOther_146 : decode cX2_doOther 146 = .ok (.aload_n 0, 1) := by decide +kernel
theorem dX2_doOther_147 : decode cX2_doOther 147 = .ok (.iload_n 1, 1) := by decide +kernel
theorem dX2_doOther_148 : decode cX2_doOther 148 = .ok (.invokevirtual 93, 3) := by decide +kernel
theorem dX2_doOther_151 : decode cX2_doOther 151 = .ok (.goto 38, 3) := by decide +kernel
theorem dX2_doOther_154 : decode cX2_doOther 154 = .ok (.iload_n 1, 1) := by decide +kernel
theorem dX2_doOther_155 : decode cX2_doOther 155 = .ok (.sipush 160, 3) := by decide +kernel
theorem dX2_doOther_158 : decode cX2_doOther 158 = .ok (.if_icmp .lt 18, 3) := by decide +kernel
theorem dX2_doOther_161 : decode cX2_doOther 161 = .ok (.iload_n 1, 1) := by decide +kernel
theorem dX2_doOther_162 : decode cX2_doOther 162 = .ok (.sipush 192, 3) := by decide +kernel
theorem dX2_doOther_165 : decode cX2_doOther 165 = .ok (.if_icmp .ge 11, 3) := by decide +kernel
theorem dX2_doOther_168 : decode cX2_doOther 168 = .ok (.aload_n 0, 1) := by decide +kernel
theorem dX2_doOther_169 : decode cX2_doOther 169 = .ok (.iload_n 1, 1) := by decide +kernel
theorem dX2_doOther_170 : decode cX2_doOther 170 = .ok (.invokevirtual 96, 3) := by decide +kernel
theorem dX2_doOther_173 : decode cX2_doOther 173 = .ok (.goto 16, 3) := by decide +kernel
theorem dX2_doOther_176 : decode cX2_doOther 176 = .ok (.aload_n 0, 1) := by decide +kernel
theorem dX2_doOther_177 : decode cX2_doOther 177 = .ok (.iload_n 1, 1) := by decide +kernel
theorem dX2_doOther_178 : decode cX2_doOther 178 = .ok (.ifCond .ne 7, 3) := by decide +kernel
theorem dX2_doOther_181 : decode cX2_doOther 181 = .ok (.iconst 1, 1) := by decide +kernel
theorem dX2_doOther_182 : decode cX2_doOther 182 = .ok (.goto 4, 3) := by decide +kernel
theorem dX2_doOther_185 : decode cX2_doOther 185 = .ok (.iconst 2, 1) := by decide +kernel
theorem dX2_doOther_186 : decode cX2_doOther 186 = .ok (.putfield 25, 3) := by decide +kernel
theorem dX2_doOther_189 : decode cX2_doOther 189 = .ok (.return_, 1) := by decide +kernel
theorem dX2_branch_0 : decode cX2_branch 0 = .ok (.aload_n 0, 1) := by decide +kernel
theorem dX2_branch_1 : decode cX2_branch 1 = .ok (.dup, 1) := by decide +kernel
theorem dX2_branch_2 : decode cX2_branch 2 = .ok (.getfield 39, 3) := by decide +kernel
theorem dX2_branch_5 : decode cX2_branch 5 = .ok (.iconst 1, 1) := by decide +kernel
theorem dX2_branch_6 : decode cX2_branch 6 = .ok (.iadd, 1) := by decide +kernel
theorem dX2_branch_7 : decode cX2_branch 7 = .ok (.putfield 39, 3) := by decide +kernel
theorem dX2_branch_10 : decode cX2_branch 10 = .ok (.aload_n 0, 1) := by decide +kernel
theorem dX2_branch_11 : decode cX2_branch 11 = .ok (.iload_n 1, 1) := by decide +kernel
theorem dX2_branch_12 : decode cX2_branch 12 = .ok (.bipush 8, 2) := by decide +kernel
theorem dX2_branch_14 : decode cX2_branch 14 = .ok (.ishr, 1) := by decide +kernel
theorem dX2_branch_15 : decode cX2_branch 15 = .ok (.invokevirtual 78, 3) := by decide +kernel
theorem dX2_branch_18 : decode cX2_branch 18 = .ok (.ifCond .ne 4, 3) := by decide +kernel
theorem dX2_branch_21 : decode cX2_branch 21 = .ok (.return_, 1) := by decide +kernel
theorem dX2_branch_22 : decode cX2_branch 22 = .ok (.aload_n 0, 1) := by decide +kernel
theorem dX2_branch_23 : decode cX2_branch 23 = .ok (.dup, 1) := by decide +kernel
theorem dX2_branch_24 : decode cX2_branch 24 = .ok (.getfield 39, 3) := by decide +kernel
theorem dX2_branch_27 : decode cX2_branch 27 = .ok (.iconst 1, 1) := by decide +kernel
theorem dX2_branch_28 : decode cX2_branch 28 = .ok (.iadd, 1) := by decide +kernel
theorem dX2_branch_29 : decode cX2_branch 29 = .ok (.putfield 39, 3) := by decide +kernel
theorem dX2_branch_32 : decode cX2_branch 32 = .ok (.iload_n 1, 1) := by decide +kernel
theorem dX2_branch_33 : decode cX2_branch 33 = .ok (.sipush 255, 3) := by decide +kernel
theorem dX2_branch_36 : decode cX2_branch 36 = .ok (.iand, 1) := by decide +kernel
theorem dX2_branch_37 : decode cX2_branch 37 = .ok (.istore_n 2, 1) := by decide +kernel
theorem dX2_branch_38 : decode cX2_branch 38 = .ok (.aload_n 0, 1) := by decide +kernel
theorem dX2_branch_39 : decode cX2_branch 39 = .ok (.bipush 7, 2) := by decide +kernel
theorem dX2_branch_41 : decode cX2_branch 41 = .ok (.iconst 2, 1) := by decide +kernel
theorem dX2_branch_42 : decode cX2_branch 42 = .ok (.iload_n 2, 1) := by decide +kernel
theorem dX2_branch_43 : decode cX2_branch 43 = .ok (.bipush 127, 2) := by decide +kernel
theorem dX2_branch_45 : decode cX2_branch 45 = .ok (.if_icmp .le 11, 3) := by decide +kernel
theorem dX2_branch_48 : decode cX2_branch 48 = .ok (.iload_n 2, 1) := by decide +kernel
theorem dX2_branch_49 : decode cX2_branch 49 = .ok (.sipush 256, 3) := by decide +kernel
theorem dX2_branch_52 : decode cX2_branch 52 = .ok (.isub, 1) := by decide +kernel
theorem dX2_branch_53 : decode cX2_branch 53 = .ok (.goto 4, 3) := by decide +kernel
theorem dX2_branch_56 : decode cX2_branch 56 = .ok (.iload_n 2, 1) := by decide +kernel
theorem dX2_branch_57 : decode cX2_branch 57 = .ok (.imul, 1) := by decide +kernel
theorem dX2_branch_58 : decode cX2_branch 58 = .ok (.invokevirtual 28, 3) := by decide +kernel
theorem dX2_branch_61 : decode cX2_branch 61 = .ok (.return_, 1) := by decide +kernel
theorem dX2_isTrue_0 : decode cX2_isTrue 0 = .ok (.aload_n 0, 1) := by decide +kernel
theorem dX2_isTrue_1 : decode cX2_isTrue 1 = .ok (.getfield 17, 3) := by decide +kernel
theorem dX2_isTrue_4 : decode cX2_isTrue 4 = .ok (.bipush 8, 2) := by decide +kernel
theorem dX2_isTrue_6 : decode cX2_isTrue 6 = .ok (.iand, 1) := by decide +kernel
theorem dX2_isTrue_7 : decode cX2_isTrue 7 = .ok (.ifCond .eq 7, 3) := by decide +kernel
theorem dX2_isTrue_10 : decode cX2_isTrue 10 = .ok (.iconst 1, 1) := by decide +kernel
theorem dX2_isTrue_11 : decode cX2_isTrue 11 = .ok (.goto 4, 3) := by decide +kernel
theorem dX2_isTrue_14 : decode cX2_isTrue 14 = .ok (.iconst 0, 1) := by decide +kernel
theorem dX2_isTrue_15 : decode cX2_isTrue 15 = .ok (.istore_n 2, 1) := by decide +kernel
theorem dX2_isTrue_16 : decode cX2_isTrue 16 = .ok (.aload_n 0, 1) := by decide +kernel
theorem dX2_isTrue_17 : decode cX2_isTrue 17 = .ok (.getfield 17, 3) := by decide +kernel
theorem dX2_isTrue_20 : decode cX2_isTrue 20 = .ok (.iconst 4, 1) := by decide +kernel
theorem dX2_isTrue_21 : decode cX2_isTrue 21 = .ok (.iand, 1) := by decide +kernel
theorem dX2_isTrue_22 : decode cX2_isTrue 22 = .ok (.ifCond .eq 7, 3) := by decide +kernel
theorem dX2_isTrue_25 : decode cX2_isTrue 25 = .ok (.iconst 1, 1) := by decide +kernel
theorem dX2_isTrue_26 : decode cX2_isTrue 26 = .ok (.goto 4, 3) := by decide +kernel
theorem dX2_isTrue_29 : decode cX2_isTrue 29 = .ok (.iconst 0, 1) := by decide +kernel
theorem dX2_isTrue_30 : decode cX2_isTrue 30 = .ok (.istore_n 3, 1) := by decide +kernel
theorem dX2_isTrue_31 : decode cX2_isTrue 31 = .ok (.aload_n 0, 1) := by decide +kernel
theorem dX2_isTrue_32 : decode cX2_isTrue 32 = .ok (.getfield 17, 3) := by decide +kernel
theorem dX2_isTrue_35 : decode cX2_isTrue 35 = .ok (.iconst 2, 1) := by decide +kernel
theorem dX2_isTrue_36 : decode cX2_isTrue 36 = .ok (.iand, 1) := by decide +kernel
theorem dX2_isTrue_37 : decode cX2_isTrue 37 = .ok (.ifCond .eq 7, 3) := by decide +kernel
