theorem dX0_init_0 : decode cX0_init 0 = .ok (.aload_n 0, 1) := by decide +kernel
theorem dX0_init_1 : decode cX0_init 1 = .ok (.invokespecial 3, 3) := by decide +kernel
theorem dX0_init_4 : decode cX0_init 4 = .ok (.aload_n 0, 1) := by decide +kernel
theorem dX0_init_5 : decode cX0_init 5 = .ok (.iconst 0, 1) := by decide +kernel
theorem dX0_init_6 : decode cX0_init 6 = .ok (.putfield 9, 3) := by decide +kernel
theorem dX0_init_9 : decode cX0_init 9 = .ok (.aload_n 0, 1) := by decide +kernel
theorem dX0_init_10 : decode cX0_init 10 = .ok (.iconst 0, 1) := by decide +kernel
theorem dX0_init_11 : decode cX0_init 11 = .ok (.putfield 15, 3) := by decide +kernel
theorem dX0_init_14 : decode cX0_init 14 = .ok (.aload_n 0, 1) := by decide +kernel
theorem dX0_init_15 : decode cX0_init 15 = .ok (.iconst 0, 1) := by decide +kernel
theorem dX0_init_16 : decode cX0_init 16 = .ok (.putfield 18, 3) := by decide +kernel
theorem dX0_init_19 : decode cX0_init 19 = .ok (.aload_n 0, 1) := by decide +kernel
theorem dX0_init_20 : decode cX0_init 20 = .ok (.iconst 0, 1) := by decide +kernel
theorem dX0_init_21 : decode cX0_init 21 = .ok (.putfield 21, 3) := by decide +kernel
theorem dX0_init_24 : decode cX0_init 24 = .ok (.aload_n 0, 1) := by decide +kernel
theorem dX0_init_25 : decode cX0_init 25 = .ok (.ldc 24, 2) := by decide +kernel
theorem dX0_init_27 : decode cX0_init 27 = .ok (.putfield 25, 3) := by decide +kernel
theorem dX0_init_30 : decode cX0_init 30 = .ok (.aload_n 0, 1) := by decide +kernel
theorem dX0_init_31 : decode cX0_init 31 = .ok (.ldc 29, 2) := by decide +kernel
theorem dX0_init_33 : decode cX0_init 33 = .ok (.putfield 30, 3) := by decide +kernel
theorem dX0_init_36 : decode cX0_init 36 = .ok (.return_, 1) := by decide +kernel
theorem dX0_packed_0 : decode cX0_packed 0 = .ok (.aload_n 0, 1) := by decide +kernel
theorem dX0_packed_1 : decode cX0_packed 1 = .ok (.getfield 9, 3) := by decide +kernel
theorem dX0_packed_4 : decode cX0_packed 4 = .ok (.ifCond .eq 8, 3) := by decide +kernel
theorem dX0_packed_7 : decode cX0_packed 7 = .ok (.bipush 8, 2) := by decide +kernel
theorem dX0_packed_9 : decode cX0_packed 9 = .ok (.goto 4, 3) := by decide +kernel
theorem dX0_packed_12 : decode cX0_packed 12 = .ok (.iconst 0, 1) := by decide +kernel
theorem dX0_packed_13 : decode cX0_packed 13 = .ok (.aload_n 0, 1) := by decide +kernel
theorem dX0_packed_14 : decode cX0_packed 14 = .ok (.getfield 15, 3) := by decide +kernel
theorem dX0_packed_17 : decode cX0_packed 17 = .ok (.ifCond .eq 7, 3) := by decide +kernel
theorem dX0_packed_20 : decode cX0_packed 20 = .ok (.iconst 4, 1) := by decide +kernel
theorem dX0_packed_21 : decode cX0_packed 21 = .ok (.goto 4, 3) := by decide +kernel
theorem dX0_packed_24 : decode cX0_packed 24 = .ok (.iconst 0, 1) := by decide +kernel
theorem dX0_packed_25 : decode cX0_packed 25 = .ok (.ior, 1) := by decide +kernel
theorem dX0_packed_26 : decode cX0_packed 26 = .ok (.aload_n 0, 1) := by decide +kernel
theorem dX0_packed_27 : decode cX0_packed 27 = .ok (.getfield 18, 3) := by decide +kernel
theorem dX0_packed_30 : decode cX0_packed 30 = .ok (.ifCond .eq 7, 3) := by decide +kernel
theorem dX0_packed_33 : decode cX0_packed 33 = .ok (.iconst 2, 1) := by decide +kernel
theorem dX0_packed_34 : decode cX0_packed 34 = .ok (.goto 4, 3) := by decide +kernel
theorem dX0_packed_37 : decode cX0_packed 37 = .ok (.iconst 0, 1) := by decide +kernel
theorem dX0_packed_38 : decode cX0_packed 38 = .ok (.ior, 1) := by decide +kernel
theorem dX0_packed_39 : decode cX0_packed 39 = .ok (.aload_n 0, 1) := by decide +kernel
theorem dX0_packed_40 : decode cX0_packed 40 = .ok (.getfield 21, 3) := by decide +kernel
theorem dX0_packed_43 : decode cX0_packed 43 = .ok (.ifCond .eq 7, 3) := by decide +kernel
theorem dX0_packed_46 : decode cX0_packed 46 = .ok (.iconst 1, 1) := by decide +kernel
theorem dX0_packed_47 : decode cX0_packed 47 = .ok (.goto 4, 3) := by decide +kernel
theorem dX0_packed_50 : decode cX0_packed 50 = .ok (.iconst 0, 1) := by decide +kernel
theorem dX0_packed_51 : decode cX0_packed 51 = .ok (.ior, 1) := by decide +kernel
theorem dX0_packed_52 : decode cX0_packed 52 = .ok (.ireturn, 1) := by decide +kernel
theorem dX0_takeWidth_0 : decode cX0_takeWidth 0 = .ok (.aload_n 0, 1) := by decide +kernel
theorem dX0_takeWidth_1 : decode cX0_takeWidth 1 = .ok (.iload_n 1, 1) := by decide +kernel
theorem dX0_takeWidth_2 : decode cX0_takeWidth 2 = .ok (.ifCond .eq 9, 3) := by decide +kernel
theorem dX0_takeWidth_5 : decode cX0_takeWidth 5 = .ok (.sipush 255, 3) := by decide +kernel
theorem dX0_takeWidth_8 : decode cX0_takeWidth 8 = .ok (.goto 5, 3) := by decide +kernel
theorem dX0_takeWidth_11 : decode cX0_takeWidth 11 = .ok (.ldc 24, 2) := by decide +kernel
theorem dX0_takeWidth_13 : decode cX0_takeWidth 13 = .ok (.putfield 25, 3) := by decide +kernel
theorem dX0_takeWidth_16 : decode cX0_takeWidth 16 = .ok (.aload_n 0, 1) := by decide +kernel
theorem dX0_takeWidth_17 : decode cX0_takeWidth 17 = .ok (.iload_n 1, 1) := by decide +kernel
theorem dX0_takeWidth_18 : decode cX0_takeWidth 18 = .ok (.ifCond .eq 9, 3) := by decide +kernel
theorem dX0_takeWidth_21 : decode cX0_takeWidth 21 = .ok (.sipush 128, 3) := by decide +kernel
theorem dX0_takeWidth_24 : decode cX0_takeWidth 24 = .ok (.goto 5, 3) := by decide +kernel
theorem dX0_takeWidth_27 : decode cX0_takeWidth 27 = .ok (.ldc 29, 2) := by decide +kernel
theorem dX0_takeWidth_29 : decode cX0_takeWidth 29 = .ok (.putfield 30, 3) := by decide +kernel
theorem dX0_takeWidth_32 : decode cX0_takeWidth 32 = .ok (.return_, 1) := by decide +kernel
theorem dX0_ofTwo_0 : decode cX0_ofTwo 0 = .ok (.iload_n 1, 1) := by decide +kernel
theorem dX0_ofTwo_1 : decode cX0_ofTwo 1 = .ok (.tableswitch 85 1 6 #[39, 45, 52, 60, 70, 78], 39) := by decide +kernel
theorem dX0_ofTwo_40 : decode cX0_ofTwo 40 = .ok (.aload_n 0, 1) := by decide +kernel
theorem dX0_ofTwo_41 : decode cX0_ofTwo 41 = .ok (.iload_n 2, 1) := by decide +kernel
theorem dX0_ofTwo_42 : decode cX0_ofTwo 42 = .ok (.invokevirtual 33, 3) := by decide +kernel
theorem dX0_ofTwo_45 : decode cX0_ofTwo 45 = .ok (.ireturn, 1) := by decide +kernel
theorem dX0_ofTwo_46 : decode cX0_ofTwo 46 = .ok (.aload_n 0, 1) := by decide +kernel
theorem dX0_ofTwo_47 : decode cX0_ofTwo 47 = .ok (.iload_n 2, 1) := by decide +kernel
theorem dX0_ofTwo_48 : decode cX0_ofTwo 48 = .ok (.iload_n 3, 1) := by decide +kernel
theorem dX0_ofTwo_49 : decode cX0_ofTwo 49 = .ok (.invokevirtual 37, 3) := by decide +kernel
theorem dX0_ofTwo_52 : decode cX0_ofTwo 52 = .ok (.ireturn, 1) := by decide +kernel
theorem dX0_ofTwo_53 : decode cX0_ofTwo 53 = .ok (.aload_n 0, 1) := by decide +kernel
theorem dX0_ofTwo_54 : decode cX0_ofTwo 54 = .ok (.iload_n 2, 1) := by decide +kernel
theorem dX0_ofTwo_55 : decode cX0_ofTwo 55 = .ok (.iload_n 3, 1) := by decide +kernel
theorem dX0_ofTwo_56 : decode cX0_ofTwo 56 = .ok (.iand, 1) := by decide +kernel
theorem dX0_ofTwo_57 : decode cX0_ofTwo 57 = .ok (.invokevirtual 33, 3) := by decide +kernel
theorem dX0_ofTwo_60 : decode cX0_ofTwo 60 = .ok (.ireturn, 1) := by decide +kernel
theorem dX0_ofTwo_61 : decode cX0_ofTwo 61 = .ok (.aload_n 0, 1) := by decide +kernel
theorem dX0_ofTwo_62 : decode cX0_ofTwo 62 = .ok (.iload_n 3, 1) := by decide +kernel
theorem dX0_ofTwo_63 : decode cX0_ofTwo 63 = .ok (.iload_n 2, 1) := by decide +kernel
theorem dX0_ofTwo_64 : decode cX0_ofTwo 64 = .ok (.iconst (-1), 1) := by decide +kernel
theorem dX0_ofTwo_65 : decode cX0_ofTwo 65 = .ok (.ixor, 1) := by decide +kernel
theorem dX0_ofTwo_66 : decode cX0_ofTwo 66 = .ok (.iand, 1) := by decide +kernel
theorem dX0_ofTwo_67 : decode cX0_ofTwo 67 = .ok (.invokevirtual 33, 3) := by decide +kernel
theorem dX0_ofTwo_70 : decode cX0_ofTwo 70 = .ok (.ireturn, 1) := by decide +kernel
theorem dX0_ofTwo_71 : decode cX0_ofTwo 71 = .ok (.aload_n 0, 1) := by decide +kernel
theorem dX0_ofTwo_72 : decode cX0_ofTwo 72 = .ok (.iload_n 2, 1) := by decide +kernel
theorem dX0_ofTwo_73 : decode cX0_ofTwo 73 = .ok (.iload_n 3, 1) := by decide +kernel
theorem dX0_ofTwo_74 : decode cX0_ofTwo 74 = .ok (.ior, 1) := by decide +kernel
theorem dX0_ofTwo_75 : decode cX0_ofTwo 75 = .ok (.invokevirtual 33, 3) := by decide +kernel
theorem dX0_ofTwo_78 : decode cX0_ofTwo 78 = .ok (.ireturn, 1) := by decide +kernel
theorem dX0_ofTwo_79 : decode cX0_ofTwo 79 = .ok (.aload_n 0, 1) := by decide +kernel
theorem dX0_ofTwo_80 : decode cX0_ofTwo 80 = .ok (.iload_n 2, 1) := by decide +kernel
theorem dX0_ofTwo_81 : decode cX0_ofTwo 81 = .ok (.iload_n 3, 1) := by decide +kernel
theorem dX0_ofTwo_82 : decode cX0_ofTwo 82 = .ok (.invokevirtual 41, 3) := by decide +kernel
theorem dX0_ofTwo_85 : decode cX0_ofTwo 85 = .ok (.ireturn, 1) := by decide +kernel
theorem dX0_ofTwo_86 : decode cX0_ofTwo 86 = .ok (.aload_n 0, 1) := by decide +kernel
theorem dX0_ofTwo_87 : decode cX0_ofTwo 87 = .ok (.iload_n 3, 1) := by decide +kernel
theorem dX0_ofTwo_88 : decode cX0_ofTwo 88 = .ok (.iload_n 2, 1) := by decide +kernel
theorem dX0_ofTwo_89 : decode cX0_ofTwo 89 = .ok (.invokevirtual 37, 3) := by decide +kernel
theorem dX0_ofTwo_92 : decode cX0_ofTwo 92 = .ok (.ireturn, 1) := by decide +kernel
theorem dX0_logical_0 : decode cX0_logical 0 = .ok (.aload_n 0, 1) := by decide +kernel
theorem dX0_logical_1 : decode cX0_logical 1 = .ok (.iload_n 1, 1) := by decide +kernel
theorem dX0_logical_2 : decode cX0_logical 2 = .ok (.iconst 0, 1) := by decide +kernel
theorem dX0_logical_3 : decode cX0_logical 3 = .ok (.aload_n 0, 1) := by decide +kernel
theorem dX0_logical_4 : decode cX0_logical 4 = .ok (.getfield 21, 3) := by decide +kernel
theorem dX0_logical_7 : decode cX0_logical 7 = .ok (.invokevirtual 44, 3) := by decide +kernel
theorem dX0_logical_10 : decode cX0_logical 10 = .ok (.ireturn, 1) := by decide +kernel
theorem dX0_settled_0 : decode cX0_settled 0 = .ok (.iload_n 1, 1) := by decide +kernel
theorem dX0_settled_1 : decode cX0_settled 1 = .ok (.aload_n 0, 1) := by decide +kernel
theorem dX0_settled_2 : decode cX0_settled 2 = .ok (.getfield 25, 3) := by decide +kernel
theorem dX0_settled_5 : decode cX0_settled 5 = .ok (.iand, 1) := by decide +kernel
theorem dX0_settled_6 : decode cX0_settled 6 = .ok (.istore 4, 2) := by decide +kernel
theorem dX0_settled_8 : decode cX0_settled 8 = .ok (.aload_n 0, 1) := by decide +kernel
theorem dX0_settled_9 : decode cX0_settled 9 = .ok (.iload 4, 2) := by decide +kernel
theorem dX0_settled_11 : decode cX0_settled 11 = .ok (.aload_n 0, 1) := by decide +kernel
theorem dX0_settled_12 : decode cX0_settled 12 = .ok (.getfield 30, 3) := by decide +kernel
theorem dX0_settled_15 : decode cX0_settled 15 = .ok (.iand, 1) := by decide +kernel
theorem dX0_settled_16 : decode cX0_settled 16 = .ok (.ifCond .eq 7, 3) := by decide +kernel
theorem dX0_settled_19 : decode cX0_settled 19 = .ok (.iconst 1, 1) := by decide +kernel
theorem dX0_settled_20 : decode cX0_settled 20 = .ok (.goto 4, 3) := by decide +kernel
theorem dX0_settled_23 : decode cX0_settled 23 = .ok (.iconst 0, 1) := by decide +kernel
theorem dX0_settled_24 : decode cX0_settled 24 = .ok (.putfield 9, 3) := by decide +kernel
theorem dX0_settled_27 : decode cX0_settled 27 = .ok (.aload_n 0, 1) := by decide +kernel
theorem dX0_settled_28 : decode cX0_settled 28 = .ok (.iload 4, 2) := by decide +kernel
theorem dX0_settled_30 : decode cX0_settled 30 = .ok (.ifCond .ne 7, 3) := by decide +kernel
theorem dX0_settled_33 : decode cX0_settled 33 = .ok (.iconst 1, 1) := by decide +kernel
theorem dX0_settled_34 : decode cX0_settled 34 = .ok (.goto 4, 3) := by decide +kernel
theorem dX0_settled_37 : decode cX0_settled 37 = .ok (.iconst 0, 1) := by decide +kernel
theorem dX0_settled_38 : decode cX0_settled 38 = .ok (.putfield 15, 3) := by decide +kernel
theorem dX0_settled_41 : decode cX0_settled 41 = .ok (.aload_n 0, 1) := by decide +kernel
theorem dX0_settled_42 : decode cX0_settled 42 = .ok (.iload_n 2, 1) := by decide +kernel
theorem dX0_settled_43 : decode cX0_settled 43 = .ok (.putfield 18, 3) := by decide +kernel
theorem dX0_settled_46 : decode cX0_settled 46 = .ok (.aload_n 0, 1) := by decide +kernel
theorem dX0_settled_47 : decode cX0_settled 47 = .ok (.iload_n 3, 1) := by decide +kernel
theorem dX0_settled_48 : decode cX0_settled 48 = .ok (.putfield 21, 3) := by decide +kernel
theorem dX0_settled_51 : decode cX0_settled 51 = .ok (.iload 4, 2) := by decide +kernel
theorem dX0_settled_53 : decode cX0_settled 53 = .ok (.ireturn, 1) := by decide +kernel
theorem dX0_difference_0 : decode cX0_difference 0 = .ok (.iload_n 1, 1) := by decide +kernel
theorem dX0_difference_1 : decode cX0_difference 1 = .ok (.iload_n 2, 1) := by decide +kernel
theorem dX0_difference_2 : decode cX0_difference 2 = .ok (.isub, 1) := by decide +kernel
theorem dX0_difference_3 : decode cX0_difference 3 = .ok (.istore_n 3, 1) := by decide +kernel
theorem dX0_difference_4 : decode cX0_difference 4 = .ok (.iload_n 1, 1) := by decide +kernel
theorem dX0_difference_5 : decode cX0_difference 5 = .ok (.aload_n 0, 1) := by decide +kernel
theorem dX0_difference_6 : decode cX0_difference 6 = .ok (.getfield 30, 3) := by decide +kernel
theorem dX0_difference_9 : decode cX0_difference 9 = .ok (.iand, 1) := by decide +kernel
theorem dX0_difference_10 : decode cX0_difference 10 = .ok (.iload_n 2, 1) := by decide +kernel
theorem dX0_difference_11 : decode cX0_difference 11 = .ok (.aload_n 0, 1) := by decide +kernel
theorem dX0_difference_12 : decode cX0_difference 12 = .ok (.getfield 30, 3) := by decide +kernel
theorem dX0_difference_15 : decode cX0_difference 15 = .ok (.iand, 1) := by decide +kernel
theorem dX0_difference_16 : decode cX0_difference 16 = .ok (.if_icmp .eq 22, 3) := by decide +kernel
theorem dX0_difference_19 : decode cX0_difference 19 = .ok (.iload_n 3, 1) := by decide +kernel
theorem dX0_difference_20 : decode cX0_difference 20 = .ok (.aload_n 0, 1) := by decide +kernel
theorem dX0_difference_21 : decode cX0_difference 21 = .ok (.getfield 30, 3) := by decide +kernel
theorem dX0_difference_24 : decode cX0_difference 24 = .ok (.iand, 1) := by decide +kernel
theorem dX0_difference_25 : decode cX0_difference 25 = .ok (.iload_n 2, 1) := by decide +kernel
theorem dX0_difference_26 : decode cX0_difference 26 = .ok (.aload_n 0, 1) := by decide +kernel
theorem dX0_difference_27 : decode cX0_difference 27 = .ok (.getfield 30, 3) := by decide +kernel
theorem dX0_difference_30 : decode cX0_difference 30 = .ok (.iand, 1) := by decide +kernel
theorem dX0_difference_31 : decode cX0_difference 31 = .ok (.if_icmp .ne 7, 3) := by decide +kernel
theorem dX0_difference_34 : decode cX0_difference 34 = .ok (.iconst 1, 1) := by decide +kernel
theorem dX0_difference_35 : decode cX0_difference 35 = .ok (.goto 4, 3) := by decide +kernel
theorem dX0_difference_38 : decode cX0_difference 38 = .ok (.iconst 0, 1) := by decide +kernel
theorem dX0_difference_39 : decode cX0_difference 39 = .ok (.istore 4, 2) := by decide +kernel
theorem dX0_difference_41 : decode cX0_difference 41 = .ok (.aload_n 0, 1) := by decide +kernel
theorem dX0_difference_42 : decode cX0_difference 42 = .ok (.iload_n 3, 1) := by decide +kernel
theorem dX0_difference_43 : decode cX0_difference 43 = .ok (.iload 4, 2) := by decide +kernel
theorem dX0_difference_45 : decode cX0_difference 45 = .ok (.iload_n 1, 1) := by decide +kernel
theorem dX0_difference_46 : decode cX0_difference 46 = .ok (.iload_n 2, 1) := by decide +kernel
theorem dX0_difference_47 : decode cX0_difference 47 = .ok (.if_icmp .ge 7, 3) := by decide +kernel
theorem dX0_difference_50 : decode cX0_difference 50 = .ok (.iconst 1, 1) := by decide +kernel
theorem dX0_difference_51 : decode cX0_difference 51 = .ok (.goto 4, 3) := by decide +kernel
theorem dX0_difference_54 : decode cX0_difference 54 = .ok (.iconst 0, 1) := by decide +kernel
theorem dX0_difference_55 : decode cX0_difference 55 = .ok (.invokevirtual 44, 3) := by decide +kernel
theorem dX0_difference_58 : decode cX0_difference 58 = .ok (.ireturn, 1) := by decide +kernel
theorem dX0_sum_0 : decode cX0_sum 0 = .ok (.iload_n 1, 1) := by decide +kernel
theorem dX0_sum_1 : decode cX0_sum 1 = .ok (.iload_n 2, 1) := by decide +kernel
theorem dX0_sum_2 : decode cX0_sum 2 = .ok (.iadd, 1) := by decide +kernel
theorem dX0_sum_3 : decode cX0_sum 3 = .ok (.istore_n 3, 1) := by decide +kernel
theorem dX0_sum_4 : decode cX0_sum 4 = .ok (.iload_n 1, 1) := by decide +kernel
theorem dX0_sum_5 : decode cX0_sum 5 = .ok (.aload_n 0, 1) := by decide +kernel
theorem dX0_sum_6 : decode cX0_sum 6 = .ok (.getfield 30, 3) := by decide +kernel
theorem dX0_sum_9 : decode cX0_sum 9 = .ok (.iand, 1) := by decide +kernel
theorem dX0_sum_10 : decode cX0_sum 10 = .ok (.iload_n 2, 1) := by decide +kernel
theorem dX0_sum_11 : decode cX0_sum 11 = .ok (.aload_n 0, 1) := by decide +kernel
theorem dX0_sum_12 : decode cX0_sum 12 = .ok (.getfield 30, 3) := by decide +kernel
theorem dX0_sum_15 : decode cX0_sum 15 = .ok (.iand, 1) := by decide +kernel
theorem dX0_sum_16 : decode cX0_sum 16 = .ok (.if_icmp .ne 22, 3) := by decide +kernel
theorem dX0_sum_19 : decode cX0_sum 19 = .ok (.iload_n 3, 1) := by decide +kernel
theorem dX0_sum_20 : decode cX0_sum 20 = .ok (.aload_n 0, 1) := by decide +kernel
theorem dX0_sum_21 : decode cX0_sum 21 = .ok (.getfield 30, 3) := by decide +kernel
theorem dX0_sum_24 : decode cX0_sum 24 = .ok (.iand, 1) := by decide +kernel
theorem dX0_sum_25 : decode cX0_sum 25 = .ok (.iload_n 1, 1) := by decide +kernel
theorem dX0_sum_26 : decode cX0_sum 26 = .ok (.aload_n 0, 1) := by decide +kernel
theorem dX0_sum_27 : decode cX0_sum 27 = .ok (.getfield 30, 3) := by decide +kernel
theorem dX0_sum_30 : decode cX0_sum 30 = .ok (.iand, 1) := by decide +kernel
theorem dX0_sum_31 : decode cX0_sum 31 = .ok (.if_icmp .eq 7, 3) := by decide +kernel
theorem dX0_sum_34 : decode cX0_sum 34 = .ok (.iconst 1, 1) := by decide +kernel
theorem dX0_sum_35 : decode cX0_sum 35 = .ok (.goto 4, 3) := by decide +kernel
theorem dX0_sum_38 : decode cX0_sum 38 = .ok (.iconst 0, 1) := by decide +kernel
theorem dX0_sum_39 : decode cX0_sum 39 = .ok (.istore 4, 2) := by decide +kernel
theorem dX0_sum_41 : decode cX0_sum 41 = .ok (.aload_n 0, 1) := by decide +kernel
theorem dX0_sum_42 : decode cX0_sum 42 = .ok (.iload_n 3, 1) := by decide +kernel
theorem dX0_sum_43 : decode cX0_sum 43 = .ok (.iload 4, 2) := by decide +kernel
theorem dX0_sum_45 : decode cX0_sum 45 = .ok (.iload_n 3, 1) := by decide +kernel
theorem dX0_sum_46 : decode cX0_sum 46 = .ok (.aload_n 0, 1) := by decide +kernel
theorem dX0_sum_47 : decode cX0_sum 47 = .ok (.getfield 25, 3) := by decide +kernel
theorem dX0_sum_50 : decode cX0_sum 50 = .ok (.if_icmp .le 7, 3) := by decide +kernel
theorem dX0_sum_53 : decode cX0_sum 53 = .ok (.iconst 1, 1) := by decide +kernel
theorem dX0_sum_54 : decode cX0_sum 54 = .ok (.goto 4, 3) := by decide +kernel
theorem dX0_sum_57 : decode cX0_sum 57 = .ok (.iconst 0, 1) := by decide +kernel
theorem dX0_sum_58 : decode cX0_sum 58 = .ok (.invokevirtual 44, 3) := by decide +kernel
theorem dX0_sum_61 : decode cX0_sum 61 = .ok (.ireturn, 1) := by decide +kernel
theorem dX0_ofShift_0 : decode cX0_ofShift 0 = .ok (.iload_n 2, 1) := by decide +kernel
theorem dX0_ofShift_1 : decode cX0_ofShift 1 = .ok (.iconst 1, 1) := by decide +kernel
theorem dX0_ofShift_2 : decode cX0_ofShift 2 = .ok (.iand, 1) := by decide +kernel
theorem dX0_ofShift_3 : decode cX0_ofShift 3 = .ok (.ifCond .eq 7, 3) := by decide +kernel
theorem dX0_ofShift_6 : decode cX0_ofShift 6 = .ok (.iconst 1, 1) := by decide +kernel
theorem dX0_ofShift_7 : decode cX0_ofShift 7 = .ok (.goto 4, 3) := by decide +kernel
theorem dX0_ofShift_10 : decode cX0_ofShift 10 = .ok (.iconst 0, 1) := by decide +kernel
theorem dX0_ofShift_11 : decode cX0_ofShift 11 = .ok (.istore_n 3, 1) := by decide +kernel
theorem dX0_ofShift_12 : decode cX0_ofShift 12 = .ok (.iload_n 2, 1) := by decide +kernel
theorem dX0_ofShift_13 : decode cX0_ofShift 13 = .ok (.aload_n 0, 1) := by decide +kernel
theorem dX0_ofShift_14 : decode cX0_ofShift 14 = .ok (.getfield 30, 3) := by decide +kernel
theorem dX0_ofShift_17 : decode cX0_ofShift 17 = .ok (.iand, 1) := by decide +kernel
theorem dX0_ofShift_18 : decode cX0_ofShift 18 = .ok (.ifCond .eq 7, 3) := by decide +kernel
theorem dX0_ofShift_21 : decode cX0_ofShift 21 = .ok (.iconst 1, 1) := by decide +kernel
theorem dX0_ofShift_22 : decode cX0_ofShift 22 = .ok (.goto 4, 3) := by decide +kernel
theorem dX0_ofShift_25 : decode cX0_ofShift 25 = .ok (.iconst 0, 1) := by decide +kernel
theorem dX0_ofShift_26 : decode cX0_ofShift 26 = .ok (.istore 4, 2) := by decide +kernel
theorem dX0_ofShift_28 : decode cX0_ofShift 28 = .ok (.iload_n 1, 1) := by decide +kernel
theorem dX0_ofShift_29 : decode cX0_ofShift 29 = .ok (.tableswitch 91 48 50 #[27, 52, 75], 27) := by decide +kernel
theorem dX0_ofShift_56 : decode cX0_ofShift 56 = .ok (.aload_n 0, 1) := by decide +kernel
theorem dX0_ofShift_57 : decode cX0_ofShift 57 = .ok (.iload_n 2, 1) := by decide +kernel
theorem dX0_ofShift_58 : decode cX0_ofShift 58 = .ok (.iconst 1, 1) := by decide +kernel
theorem dX0_ofShift_59 : decode cX0_ofShift 59 = .ok (.ishr, 1) := by decide +kernel
theorem dX0_ofShift_60 : decode cX0_ofShift 60 = .ok (.aload_n 0, 1) := by decide +kernel
theorem dX0_ofShift_61 : decode cX0_ofShift 61 = .ok (.getfield 21, 3) := by decide +kernel
theorem dX0_ofShift_64 : decode cX0_ofShift 64 = .ok (.ifCond .eq 10, 3) := by decide +kernel
theorem dX0_ofShift_67 : decode cX0_ofShift 67 = .ok (.aload_n 0, 1) := by decide +kernel
theorem dX0_ofShift_68 : decode cX0_ofShift 68 = .ok (.getfield 30, 3) := by decide +kernel
theorem dX0_ofShift_71 : decode cX0_ofShift 71 = .ok (.goto 4, 3) := by decide +kernel
theorem dX0_ofShift_74 : decode cX0_ofShift 74 = .ok (.iconst 0, 1) := by decide +kernel
theorem dX0_ofShift_75 : decode cX0_ofShift 75 = .ok (.ior, 1) := by decide +kernel
theorem dX0_ofShift_76 : decode cX0_ofShift 76 = .ok (.iload_n 3, 1) := by decide +kernel
theorem dX0_ofShift_77 : decode cX0_ofShift 77 = .ok (.invokevirtual 51, 3) := by decide +kernel
theorem dX0_ofShift_80 : decode cX0_ofShift 80 = .ok (.ireturn, 1) := by decide +kernel
theorem dX0_ofShift_81 : decode cX0_ofShift 81 = .ok (.aload_n 0, 1) := by decide +kernel
theorem dX0_ofShift_82 : decode cX0_ofShift 82 = .ok (.iload_n 2, 1) := by decide +kernel
theorem dX0_ofShift_83 : decode cX0_ofShift 83 = .ok (.iconst 1, 1) := by decide +kernel
theorem dX0_ofShift_84 : decode cX0_ofShift 84 = .ok (.ishl, 1) := by decide +kernel
theorem dX0_ofShift_85 : decode cX0_ofShift 85 = .ok (.aload_n 0, 1) := by decide +kernel
theorem dX0_ofShift_86 : decode cX0_ofShift 86 = .ok (.getfield 21, 3) := by decide +kernel
theorem dX0_ofShift_89 : decode cX0_ofShift 89 = .ok (.ifCond .eq 7, 3) := by decide +kernel
theorem dX0_ofShift_92 : decode cX0_ofShift 92 = .ok (.iconst 1, 1) := by decide +kernel
theorem dX0_ofShift_93 : decode cX0_ofShift 93 = .ok (.goto 4, 3) := by decide +kernel
theorem dX0_ofShift_96 : decode cX0_ofShift 96 = .ok (.iconst 0, 1) := by decide +kernel
theorem dX0_ofShift_97 : decode cX0_ofShift 97 = .ok (.ior, 1) := by decide +kernel
theorem dX0_ofShift_98 : decode cX0_ofShift 98 = .ok (.iload 4, 2) := by decide +kernel
theorem dX0_ofShift_100 : decode cX0_ofShift 100 = .ok (.invokevirtual 51, 3) := by decide +kernel
theorem dX0_ofShift_103 : decode cX0_ofShift 103 = .ok (.ireturn, 1) := by decide +kernel
theorem dX0_ofShift_104 : decode cX0_ofShift 104 = .ok (.aload_n 0, 1) := by decide +kernel
theorem dX0_ofShift_105 : decode cX0_ofShift 105 = .ok (.iload_n 2, 1) := by decide +kernel
theorem dX0_ofShift_106 : decode cX0_ofShift 106 = .ok (.iconst 1, 1) := by decide +kernel
theorem dX0_ofShift_107 : decode cX0_ofShift 107 = .ok (.ishr, 1) := by decide +kernel
theorem dX0_ofShift_108 : decode cX0_ofShift 108 = .ok (.iload_n 2, 1) := by decide +kernel
theorem dX0_ofShift_109 : decode cX0_ofShift 109 = .ok (.aload_n 0, 1) := by decide +kernel
theorem dX0_ofShift_110 : decode cX0_ofShift 110 = .ok (.getfield 30, 3) := by decide +kernel
theorem dX0_ofShift_113 : decode cX0_ofShift 113 = .ok (.iand, 1) := by decide +kernel
theorem dX0_ofShift_114 : decode cX0_ofShift 114 = .ok (.ior, 1) := by decide +kernel
theorem dX0_ofShift_115 : decode cX0_ofShift 115 = .ok (.iload_n 3, 1) := by decide +kernel
theorem dX0_ofShift_116 : decode cX0_ofShift 116 = .ok (.invokevirtual 51, 3) := by decide +kernel
theorem dX0_ofShift_119 : decode cX0_ofShift 119 = .ok (.ireturn, 1) := by decide +kernel
theorem dX0_ofShift_120 : decode cX0_ofShift 120 = .ok (.aload_n 0, 1) := by decide +kernel
theorem dX0_ofShift_121 : decode cX0_ofShift 121 = .ok (.iload_n 2, 1) := by decide +kernel
theorem dX0_ofShift_122 : decode cX0_ofShift 122 = .ok (.iconst 1, 1) := by decide +kernel
theorem dX0_ofShift_123 : decode cX0_ofShift 123 = .ok (.ishl, 1) := by decide +kernel
theorem dX0_ofShift_124 : decode cX0_ofShift 124 = .ok (.iload 4, 2) := by decide +kernel
theorem dX0_ofShift_126 : decode cX0_ofShift 126 = .ok (.invokevirtual 51, 3) := by decide +kernel
theorem dX0_ofShift_129 : decode cX0_ofShift 129 = .ok (.ireturn, 1) := by decide +kernel
theorem dX0_shifted_0 : decode cX0_shifted 0 = .ok (.iload_n 1, 1) := by decide +kernel
theorem dX0_shifted_1 : decode cX0_shifted 1 = .ok (.aload_n 0, 1) := by decide +kernel
theorem dX0_shifted_2 : decode cX0_shifted 2 = .ok (.getfield 30, 3) := by decide +kernel
theorem dX0_shifted_5 : decode cX0_shifted 5 = .ok (.iand, 1) := by decide +kernel
theorem dX0_shifted_6 : decode cX0_shifted 6 = .ok (.ifCond .eq 7, 3) := by decide +kernel
theorem dX0_shifted_9 : decode cX0_shifted 9 = .ok (.iconst 1, 1) := by decide +kernel
theorem dX0_shifted_10 : decode cX0_shifted 10 = .ok (.goto 4, 3) := by decide +kernel
theorem dX0_shifted_13 : decode cX0_shifted 13 = .ok (.iconst 0, 1) := by decide +kernel
theorem dX0_shifted_14 : decode cX0_shifted 14 = .ok (.istore_n 3, 1) := by decide +kernel
theorem dX0_shifted_15 : decode cX0_shifted 15 = .ok (.aload_n 0, 1) := by decide +kernel
theorem dX0_shifted_16 : decode cX0_shifted 16 = .ok (.iload_n 1, 1) := by decide +kernel
theorem dX0_shifted_17 : decode cX0_shifted 17 = .ok (.iload_n 3, 1) := by decide +kernel
theorem dX0_shifted_18 : decode cX0_shifted 18 = .ok (.iload_n 2, 1) := by decide +kernel
theorem dX0_shifted_19 : decode cX0_shifted 19 = .ok (.if_icmp .eq 7, 3) := by decide +kernel
theorem dX0_shifted_22 : decode cX0_shifted 22 = .ok (.iconst 1, 1) := by decide +kernel
theorem dX0_shifted_23 : decode cX0_shifted 23 = .ok (.goto 4, 3) := by decide +kernel
theorem dX0_shifted_26 : decode cX0_shifted 26 = .ok (.iconst 0, 1) := by decide +kernel
theorem dX0_shifted_27 : decode cX0_shifted 27 = .ok (.iload_n 2, 1) := by decide +kernel
theorem dX0_shifted_28 : decode cX0_shifted 28 = .ok (.invokevirtual 44, 3) := by decide +kernel
theorem dX0_shifted_31 : decode cX0_shifted 31 = .ok (.ireturn, 1) := by decide +kernel
theorem dX0_ofOne_0 : decode cX0_ofOne 0 = .ok (.iload_n 1, 1) := by decide +kernel
theorem dX0_ofOne_1 : decode cX0_ofOne 1 = .ok (.tableswitch 254 40 47 #[47, 55, 65, 92, 117, 146, 199, 246], 47) := by decide +kernel
theorem dX0_ofOne_48 : decode cX0_ofOne 48 = .ok (.aload_n 0, 1) := by decide +kernel
theorem dX0_ofOne_49 : decode cX0_ofOne 49 = .ok (.iconst 0, 1) := by decide +kernel
theorem dX0_ofOne_50 : decode cX0_ofOne 50 = .ok (.iconst 0, 1) := by decide +kernel
theorem dX0_ofOne_51 : decode cX0_ofOne 51 = .ok (.iconst 0, 1) := by decide +kernel
theorem dX0_ofOne_52 : decode cX0_ofOne 52 = .ok (.invokevirtual 44, 3) := by decide +kernel
theorem dX0_ofOne_55 : decode cX0_ofOne 55 = .ok (.ireturn, 1) := by decide +kernel
theorem dX0_ofOne_56 : decode cX0_ofOne 56 = .ok (.aload_n 0, 1) := by decide +kernel
theorem dX0_ofOne_57 : decode cX0_ofOne 57 = .ok (.iload_n 2, 1) := by decide +kernel
theorem dX0_ofOne_58 : decode cX0_ofOne 58 = .ok (.iconst (-1), 1) := by decide +kernel
theorem dX0_ofOne_59 : decode cX0_ofOne 59 = .ok (.ixor, 1) := by decide +kernel
theorem dX0_ofOne_60 : decode cX0_ofOne 60 = .ok (.iconst 0, 1) := by decide +kernel
theorem dX0_ofOne_61 : decode cX0_ofOne 61 = .ok (.iconst 1, 1) := by decide +kernel
theorem dX0_ofOne_62 : decode cX0_ofOne 62 = .ok (.invokevirtual 44, 3) := by decide +kernel
theorem dX0_ofOne_65 : decode cX0_ofOne 65 = .ok (.ireturn, 1) := by decide +kernel
theorem dX0_ofOne_66 : decode cX0_ofOne 66 = .ok (.aload_n 0, 1) := by decide +kernel
theorem dX0_ofOne_67 : decode cX0_ofOne 67 = .ok (.iload_n 2, 1) := by decide +kernel
theorem dX0_ofOne_68 : decode cX0_ofOne 68 = .ok (.iconst 1, 1) := by decide +kernel
theorem dX0_ofOne_69 : decode cX0_ofOne 69 = .ok (.iadd, 1) := by decide +kernel
theorem dX0_ofOne_70 : decode cX0_ofOne 70 = .ok (.iload_n 2, 1) := by decide +kernel
theorem dX0_ofOne_71 : decode cX0_ofOne 71 = .ok (.iconst 1, 1) := by decide +kernel
theorem dX0_ofOne_72 : decode cX0_ofOne 72 = .ok (.iadd, 1) := by decide +kernel
theorem dX0_ofOne_73 : decode cX0_ofOne 73 = .ok (.aload_n 0, 1) := by decide +kernel
theorem dX0_ofOne_74 : decode cX0_ofOne 74 = .ok (.getfield 30, 3) := by decide +kernel
theorem dX0_ofOne_77 : decode cX0_ofOne 77 = .ok (.if_icmp .ne 7, 3) := by decide +kernel
theorem dX0_ofOne_80 : decode cX0_ofOne 80 = .ok (.iconst 1, 1) := by decide +kernel
theorem dX0_ofOne_81 : decode cX0_ofOne 81 = .ok (.goto 4, 3) := by decide +kernel
theorem dX0_ofOne_84 : decode cX0_ofOne 84 = .ok (.iconst 0, 1) := by decide +kernel
theorem dX0_ofOne_85 : decode cX0_ofOne 85 = .ok (.aload_n 0, 1) := by decide +kernel
theorem dX0_ofOne_86 : decode cX0_ofOne 86 = .ok (.getfield 21, 3) := by decide +kernel
theorem dX0_ofOne_89 : decode cX0_ofOne 89 = .ok (.invokevirtual 44, 3) := by decide +kernel
theorem dX0_ofOne_92 : decode cX0_ofOne 92 = .ok (.ireturn, 1) := by decide +kernel
theorem dX0_ofOne_93 : decode cX0_ofOne 93 = .ok (.aload_n 0, 1) := by decide +kernel
theorem dX0_ofOne_94 : decode cX0_ofOne 94 = .ok (.iload_n 2, 1) := by decide +kernel
theorem dX0_ofOne_95 : decode cX0_ofOne 95 = .ok (.iconst 1, 1) := by decide +kernel
theorem dX0_ofOne_96 : decode cX0_ofOne 96 = .ok (.isub, 1) := by decide +kernel
theorem dX0_ofOne_97 : decode cX0_ofOne 97 = .ok (.iload_n 2, 1) := by decide +kernel
theorem dX0_ofOne_98 : decode cX0_ofOne 98 = .ok (.aload_n 0, 1) := by decide +kernel
theorem dX0_ofOne_99 : decode cX0_ofOne 99 = .ok (.getfield 30, 3) := by decide +kernel
theorem dX0_ofOne_102 : decode cX0_ofOne 102 = .ok (.if_icmp .ne 7, 3) := by decide +kernel
theorem dX0_ofOne_105 : decode cX0_ofOne 105 = .ok (.iconst 1, 1) := by decide +kernel
theorem dX0_ofOne_106 : decode cX0_ofOne 106 = .ok (.goto 4, 3) := by decide +kernel
theorem dX0_ofOne_109 : decode cX0_ofOne 109 = .ok (.iconst 0, 1) := by decide +kernel
theorem dX0_ofOne_110 : decode cX0_ofOne 110 = .ok (.aload_n 0, 1) := by decide +kernel
theorem dX0_ofOne_111 : decode cX0_ofOne 111 = .ok (.getfield 21, 3) := by decide +kernel
theorem dX0_ofOne_114 : decode cX0_ofOne 114 = .ok (.invokevirtual 44, 3) := by decide +kernel
theorem dX0_ofOne_117 : decode cX0_ofOne 117 = .ok (.ireturn, 1) := by decide +kernel
theorem dX0_ofOne_118 : decode cX0_ofOne 118 = .ok (.aload_n 0, 1) := by decide +kernel
theorem dX0_ofOne_119 : decode cX0_ofOne 119 = .ok (.iload_n 2, 1) := by decide +kernel
theorem dX0_ofOne_120 : decode cX0_ofOne 120 = .ok (.ineg, 1) := by decide +kernel
theorem dX0_ofOne_121 : decode cX0_ofOne 121 = .ok (.iload_n 2, 1) := by decide +kernel
theorem dX0_ofOne_122 : decode cX0_ofOne 122 = .ok (.aload_n 0, 1) := by decide +kernel
theorem dX0_ofOne_123 : decode cX0_ofOne 123 = .ok (.getfield 30, 3) := by decide +kernel
theorem dX0_ofOne_126 : decode cX0_ofOne 126 = .ok (.if_icmp .ne 7, 3) := by decide +kernel
theorem dX0_ofOne_129 : decode cX0_ofOne 129 = .ok (.iconst 1, 1) := by decide +kernel
theorem dX0_ofOne_130 : decode cX0_ofOne 130 = .ok (.goto 4, 3) := by decide +kernel
theorem dX0_ofOne_133 : decode cX0_ofOne 133 = .ok (.iconst 0, 1) := by decide +kernel
theorem dX0_ofOne_134 : decode cX0_ofOne 134 = .ok (.iload_n 2, 1) := by decide +kernel
theorem dX0_ofOne_135 : decode cX0_ofOne 135 = .ok (.ifCond .eq 7, 3) := by decide +kernel
theorem dX0_ofOne_138 : decode cX0_ofOne 138 = .ok (.iconst 1, 1) := by decide +kernel
theorem dX0_ofOne_139 : decode cX0_ofOne 139 = .ok (.goto 4, 3) := by decide +kernel
theorem dX0_ofOne_142 : decode cX0_ofOne 142 = .ok (.iconst 0, 1) := by decide +kernel
theorem dX0_ofOne_143 : decode cX0_ofOne 143 = .ok (.invokevirtual 44, 3) := by decide +kernel
theorem dX0_ofOne_146 : decode cX0_ofOne 146 = .ok (.ireturn, 1) := by decide +kernel
theorem dX0_ofOne_147 : decode cX0_ofOne 147 = .ok (.aload_n 0, 1) := by decide +kernel
theorem dX0_ofOne_148 : decode cX0_ofOne 148 = .ok (.getfield 21, 3) := by decide +kernel
theorem dX0_ofOne_151 : decode cX0_ofOne 151 = .ok (.ifCond .eq 41, 3) := by decide +kernel
theorem dX0_ofOne_154 : decode cX0_ofOne 154 = .ok (.aload_n 0, 1) := by decide +kernel
theorem dX0_ofOne_155 : decode cX0_ofOne 155 = .ok (.iload_n 2, 1) := by decide +kernel
theorem dX0_ofOne_156 : decode cX0_ofOne 156 = .ok (.iconst 1, 1) := by decide +kernel
theorem dX0_ofOne_157 : decode cX0_ofOne 157 = .ok (.iadd, 1) := by decide +kernel
theorem dX0_ofOne_158 : decode cX0_ofOne 158 = .ok (.iload_n 2, 1) := by decide +kernel
theorem dX0_ofOne_159 : decode cX0_ofOne 159 = .ok (.iconst 1, 1) := by decide +kernel
theorem dX0_ofOne_160 : decode cX0_ofOne 160 = .ok (.iadd, 1) := by decide +kernel
theorem dX0_ofOne_161 : decode cX0_ofOne 161 = .ok (.aload_n 0, 1) := by decide +kernel
theorem dX0_ofOne_162 : decode cX0_ofOne 162 = .ok (.getfield 30, 3) := by decide +kernel
theorem dX0_ofOne_165 : decode cX0_ofOne 165 = .ok (.if_icmp .ne 7, 3) := by decide +kernel
theorem dX0_ofOne_168 : decode cX0_ofOne 168 = .ok (.iconst 1, 1) := by decide +kernel
theorem dX0_ofOne_169 : decode cX0_ofOne 169 = .ok (.goto 4, 3) := by decide +kernel
theorem dX0_ofOne_172 : decode cX0_ofOne 172 = .ok (.iconst 0, 1) := by decide +kernel
theorem dX0_ofOne_173 : decode cX0_ofOne 173 = .ok (.iload_n 2, 1) := by decide +kernel
theorem dX0_ofOne_174 : decode cX0_ofOne 174 = .ok (.aload_n 0, 1) := by decide +kernel
theorem dX0_ofOne_175 : decode cX0_ofOne 175 = .ok (.getfield 25, 3) := by decide +kernel
theorem dX0_ofOne_178 : decode cX0_ofOne 178 = .ok (.if_icmp .ne 7, 3) := by decide +kernel
theorem dX0_ofOne_181 : decode cX0_ofOne 181 = .ok (.iconst 1, 1) := by decide +kernel
theorem dX0_ofOne_182 : decode cX0_ofOne 182 = .ok (.goto 4, 3) := by decide +kernel
theorem dX0_ofOne_185 : decode cX0_ofOne 185 = .ok (.iconst 0, 1) := by decide +kernel
theorem dX0_ofOne_186 : decode cX0_ofOne 186 = .ok (.invokevirtual 44, 3) := by decide +kernel
theorem dX0_ofOne_189 : decode cX0_ofOne 189 = .ok (.goto 10, 3) := by decide +kernel
theorem dX0_ofOne_192 : decode cX0_ofOne 192 = .ok (.aload_n 0, 1) := by decide +kernel
theorem dX0_ofOne_193 : decode cX0_ofOne 193 = .ok (.iload_n 2, 1) := by decide +kernel
theorem dX0_ofOne_194 : decode cX0_ofOne 194 = .ok (.iconst 0, 1) := by decide +kernel
theorem dX0_ofOne_195 : decode cX0_ofOne 195 = .ok (.iconst 0, 1) := by decide +kernel
theorem dX0_ofOne_196 : decode cX0_ofOne 196 = .ok (.invokevirtual 44, 3) := by decide +kernel
theorem dX0_ofOne_199 : decode cX0_ofOne 199 = .ok (.ireturn, 1) := by decide +kernel
theorem dX0_ofOne_200 : decode cX0_ofOne 200 = .ok (.aload_n 0, 1) := by decide +kernel
theorem dX0_ofOne_201 : decode cX0_ofOne 201 = .ok (.getfield 21, 3) := by decide +kernel
theorem dX0_ofOne_204 : decode cX0_ofOne 204 = .ok (.ifCond .eq 35, 3) := by decide +kernel
theorem dX0_ofOne_207 : decode cX0_ofOne 207 = .ok (.aload_n 0, 1) := by decide +kernel
theorem dX0_ofOne_208 : decode cX0_ofOne 208 = .ok (.iload_n 2, 1) := by decide +kernel
theorem dX0_ofOne_209 : decode cX0_ofOne 209 = .ok (.iconst 1, 1) := by decide +kernel
theorem dX0_ofOne_210 : decode cX0_ofOne 210 = .ok (.isub, 1) := by decide +kernel
theorem dX0_ofOne_211 : decode cX0_ofOne 211 = .ok (.iload_n 2, 1) := by decide +kernel
theorem dX0_ofOne_212 : decode cX0_ofOne 212 = .ok (.aload_n 0, 1) := by decide +kernel
theorem dX0_ofOne_213 : decode cX0_ofOne 213 = .ok (.getfield 30, 3) := by decide +kernel
theorem dX0_ofOne_216 : decode cX0_ofOne 216 = .ok (.if_icmp .ne 7, 3) := by decide +kernel
theorem dX0_ofOne_219 : decode cX0_ofOne 219 = .ok (.iconst 1, 1) := by decide +kernel
theorem dX0_ofOne_220 : decode cX0_ofOne 220 = .ok (.goto 4, 3) := by decide +kernel
theorem dX0_ofOne_223 : decode cX0_ofOne 223 = .ok (.iconst 0, 1) := by decide +kernel
theorem dX0_ofOne_224 : decode cX0_ofOne 224 = .ok (.iload_n 2, 1) := by decide +kernel
theorem dX0_ofOne_225 : decode cX0_ofOne 225 = .ok (.ifCond .ne 7, 3) := by decide +kernel
theorem dX0_ofOne_228 : decode cX0_ofOne 228 = .ok (.iconst 1, 1) := by decide +kernel
theorem dX0_ofOne_229 : decode cX0_ofOne 229 = .ok (.goto 4, 3) := by decide +kernel
theorem dX0_ofOne_232 : decode cX0_ofOne 232 = .ok (.iconst 0, 1) := by decide +kernel
theorem dX0_ofOne_233 : decode cX0_ofOne 233 = .ok (.invokevirtual 44, 3) := by decide +kernel
