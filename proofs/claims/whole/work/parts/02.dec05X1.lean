theorem dX1_findTarget_27 : decode cX1_findTarget 27 = .ok (.iadd, 1) := by decide +kernel
theorem dX1_findTarget_28 : decode cX1_findTarget 28 = .ok (.putfield 31, 3) := by decide +kernel
theorem dX1_findTarget_31 : decode cX1_findTarget 31 = .ok (.aload_n 0, 1) := by decide +kernel
theorem dX1_findTarget_32 : decode cX1_findTarget 32 = .ok (.iload_n 2, 1) := by decide +kernel
theorem dX1_findTarget_33 : decode cX1_findTarget 33 = .ok (.iload_n 1, 1) := by decide +kernel
theorem dX1_findTarget_34 : decode cX1_findTarget 34 = .ok (.bipush 7, 2) := by decide +kernel
theorem dX1_findTarget_36 : decode cX1_findTarget 36 = .ok (.iand, 1) := by decide +kernel
theorem dX1_findTarget_37 : decode cX1_findTarget 37 = .ok (.iconst 2, 1) := by decide +kernel
theorem dX1_findTarget_38 : decode cX1_findTarget 38 = .ok (.invokevirtual 146, 3) := by decide +kernel
theorem dX1_findTarget_41 : decode cX1_findTarget 41 = .ok (.ireturn, 1) := by decide +kernel
theorem dX1_doJumpToSubroutine_0 : decode cX1_doJumpToSubroutine 0 = .ok (.aload_n 0, 1) := by decide +kernel
theorem dX1_doJumpToSubroutine_1 : decode cX1_doJumpToSubroutine 1 = .ok (.iload_n 1, 1) := by decide +kernel
theorem dX1_doJumpToSubroutine_2 : decode cX1_doJumpToSubroutine 2 = .ok (.bipush 63, 2) := by decide +kernel
theorem dX1_doJumpToSubroutine_4 : decode cX1_doJumpToSubroutine 4 = .ok (.iand, 1) := by decide +kernel
theorem dX1_doJumpToSubroutine_5 : decode cX1_doJumpToSubroutine 5 = .ok (.invokevirtual 136, 3) := by decide +kernel
theorem dX1_doJumpToSubroutine_8 : decode cX1_doJumpToSubroutine 8 = .ok (.istore_n 2, 1) := by decide +kernel
theorem dX1_doJumpToSubroutine_9 : decode cX1_doJumpToSubroutine 9 = .ok (.iload_n 2, 1) := by decide +kernel
theorem dX1_doJumpToSubroutine_10 : decode cX1_doJumpToSubroutine 10 = .ok (.iconst (-1), 1) := by decide +kernel
theorem dX1_doJumpToSubroutine_11 : decode cX1_doJumpToSubroutine 11 = .ok (.if_icmp .ne 4, 3) := by decide +kernel
theorem dX1_doJumpToSubroutine_14 : decode cX1_doJumpToSubroutine 14 = .ok (.return_, 1) := by decide +kernel
theorem dX1_doJumpToSubroutine_15 : decode cX1_doJumpToSubroutine 15 = .ok (.aload_n 0, 1) := by decide +kernel
theorem dX1_doJumpToSubroutine_16 : decode cX1_doJumpToSubroutine 16 = .ok (.bipush 6, 2) := by decide +kernel
theorem dX1_doJumpToSubroutine_18 : decode cX1_doJumpToSubroutine 18 = .ok (.iconst 2, 1) := by decide +kernel
theorem dX1_doJumpToSubroutine_19 : decode cX1_doJumpToSubroutine 19 = .ok (.invokevirtual 133, 3) := by decide +kernel
theorem dX1_doJumpToSubroutine_22 : decode cX1_doJumpToSubroutine 22 = .ok (.istore_n 3, 1) := by decide +kernel
theorem dX1_doJumpToSubroutine_23 : decode cX1_doJumpToSubroutine 23 = .ok (.aload_n 0, 1) := by decide +kernel
theorem dX1_doJumpToSubroutine_24 : decode cX1_doJumpToSubroutine 24 = .ok (.iload_n 3, 1) := by decide +kernel
theorem dX1_doJumpToSubroutine_25 : decode cX1_doJumpToSubroutine 25 = .ok (.invokevirtual 61, 3) := by decide +kernel
theorem dX1_doJumpToSubroutine_28 : decode cX1_doJumpToSubroutine 28 = .ok (.iconst (-1), 1) := by decide +kernel
theorem dX1_doJumpToSubroutine_29 : decode cX1_doJumpToSubroutine 29 = .ok (.if_icmp .ne 4, 3) := by decide +kernel
theorem dX1_doJumpToSubroutine_32 : decode cX1_doJumpToSubroutine 32 = .ok (.return_, 1) := by decide +kernel
theorem dX1_doJumpToSubroutine_33 : decode cX1_doJumpToSubroutine 33 = .ok (.iload_n 1, 1) := by decide +kernel
theorem dX1_doJumpToSubroutine_34 : decode cX1_doJumpToSubroutine 34 = .ok (.bipush 6, 2) := by decide +kernel
theorem dX1_doJumpToSubroutine_36 : decode cX1_doJumpToSubroutine 36 = .ok (.ishr, 1) := by decide +kernel
theorem dX1_doJumpToSubroutine_37 : decode cX1_doJumpToSubroutine 37 = .ok (.bipush 7, 2) := by decide +kernel
theorem dX1_doJumpToSubroutine_39 : decode cX1_doJumpToSubroutine 39 = .ok (.iand, 1) := by decide +kernel
theorem dX1_doJumpToSubroutine_40 : decode cX1_doJumpToSubroutine 40 = .ok (.istore 4, 2) := by decide +kernel
theorem dX1_doJumpToSubroutine_42 : decode cX1_doJumpToSubroutine 42 = .ok (.aload_n 0, 1) := by decide +kernel
theorem dX1_doJumpToSubroutine_43 : decode cX1_doJumpToSubroutine 43 = .ok (.getfield 9, 3) := by decide +kernel
theorem dX1_doJumpToSubroutine_46 : decode cX1_doJumpToSubroutine 46 = .ok (.iload_n 3, 1) := by decide +kernel
theorem dX1_doJumpToSubroutine_47 : decode cX1_doJumpToSubroutine 47 = .ok (.iconst 1, 1) := by decide +kernel
theorem dX1_doJumpToSubroutine_48 : decode cX1_doJumpToSubroutine 48 = .ok (.ishr, 1) := by decide +kernel
theorem dX1_doJumpToSubroutine_49 : decode cX1_doJumpToSubroutine 49 = .ok (.aload_n 0, 1) := by decide +kernel
theorem dX1_doJumpToSubroutine_50 : decode cX1_doJumpToSubroutine 50 = .ok (.getfield 13, 3) := by decide +kernel
theorem dX1_doJumpToSubroutine_53 : decode cX1_doJumpToSubroutine 53 = .ok (.iload 4, 2) := by decide +kernel
theorem dX1_doJumpToSubroutine_55 : decode cX1_doJumpToSubroutine 55 = .ok (.iaload, 1) := by decide +kernel
theorem dX1_doJumpToSubroutine_56 : decode cX1_doJumpToSubroutine 56 = .ok (.iastore, 1) := by decide +kernel
theorem dX1_doJumpToSubroutine_57 : decode cX1_doJumpToSubroutine 57 = .ok (.aload_n 0, 1) := by decide +kernel
theorem dX1_doJumpToSubroutine_58 : decode cX1_doJumpToSubroutine 58 = .ok (.getfield 13, 3) := by decide +kernel
theorem dX1_doJumpToSubroutine_61 : decode cX1_doJumpToSubroutine 61 = .ok (.iload 4, 2) := by decide +kernel
theorem dX1_doJumpToSubroutine_63 : decode cX1_doJumpToSubroutine 63 = .ok (.aload_n 0, 1) := by decide +kernel
theorem dX1_doJumpToSubroutine_64 : decode cX1_doJumpToSubroutine 64 = .ok (.getfield 13, 3) := by decide +kernel
theorem dX1_doJumpToSubroutine_67 : decode cX1_doJumpToSubroutine 67 = .ok (.bipush 7, 2) := by decide +kernel
theorem dX1_doJumpToSubroutine_69 : decode cX1_doJumpToSubroutine 69 = .ok (.iaload, 1) := by decide +kernel
theorem dX1_doJumpToSubroutine_70 : decode cX1_doJumpToSubroutine 70 = .ok (.iastore, 1) := by decide +kernel
theorem dX1_doJumpToSubroutine_71 : decode cX1_doJumpToSubroutine 71 = .ok (.aload_n 0, 1) := by decide +kernel
theorem dX1_doJumpToSubroutine_72 : decode cX1_doJumpToSubroutine 72 = .ok (.getfield 13, 3) := by decide +kernel
theorem dX1_doJumpToSubroutine_75 : decode cX1_doJumpToSubroutine 75 = .ok (.bipush 7, 2) := by decide +kernel
theorem dX1_doJumpToSubroutine_77 : decode cX1_doJumpToSubroutine 77 = .ok (.iload_n 2, 1) := by decide +kernel
theorem dX1_doJumpToSubroutine_78 : decode cX1_doJumpToSubroutine 78 = .ok (.iastore, 1) := by decide +kernel
theorem dX1_doJumpToSubroutine_79 : decode cX1_doJumpToSubroutine 79 = .ok (.aload_n 0, 1) := by decide +kernel
theorem dX1_doJumpToSubroutine_80 : decode cX1_doJumpToSubroutine 80 = .ok (.dup, 1) := by decide +kernel
theorem dX1_doJumpToSubroutine_81 : decode cX1_doJumpToSubroutine 81 = .ok (.getfield 31, 3) := by decide +kernel
theorem dX1_doJumpToSubroutine_84 : decode cX1_doJumpToSubroutine 84 = .ok (.bipush 6, 2) := by decide +kernel
theorem dX1_doJumpToSubroutine_86 : decode cX1_doJumpToSubroutine 86 = .ok (.iadd, 1) := by decide +kernel
theorem dX1_doJumpToSubroutine_87 : decode cX1_doJumpToSubroutine 87 = .ok (.putfield 31, 3) := by decide +kernel
theorem dX1_doJumpToSubroutine_90 : decode cX1_doJumpToSubroutine 90 = .ok (.return_, 1) := by decide +kernel
theorem dX1_doReturn_0 : decode cX1_doReturn 0 = .ok (.aload_n 0, 1) := by decide +kernel
theorem dX1_doReturn_1 : decode cX1_doReturn 1 = .ok (.getfield 13, 3) := by decide +kernel
theorem dX1_doReturn_4 : decode cX1_doReturn 4 = .ok (.bipush 7, 2) := by decide +kernel
theorem dX1_doReturn_6 : decode cX1_doReturn 6 = .ok (.aload_n 0, 1) := by decide +kernel
theorem dX1_doReturn_7 : decode cX1_doReturn 7 = .ok (.getfield 13, 3) := by decide +kernel
theorem dX1_doReturn_10 : decode cX1_doReturn 10 = .ok (.iload_n 1, 1) := by decide +kernel
theorem dX1_doReturn_11 : decode cX1_doReturn 11 = .ok (.iaload, 1) := by decide +kernel
theorem dX1_doReturn_12 : decode cX1_doReturn 12 = .ok (.iastore, 1) := by decide +kernel
theorem dX1_doReturn_13 : decode cX1_doReturn 13 = .ok (.aload_n 0, 1) := by decide +kernel
theorem dX1_doReturn_14 : decode cX1_doReturn 14 = .ok (.aload_n 0, 1) := by decide +kernel
theorem dX1_doReturn_15 : decode cX1_doReturn 15 = .ok (.bipush 6, 2) := by decide +kernel
theorem dX1_doReturn_17 : decode cX1_doReturn 17 = .ok (.iconst 2, 1) := by decide +kernel
theorem dX1_doReturn_18 : decode cX1_doReturn 18 = .ok (.invokevirtual 58, 3) := by decide +kernel
theorem dX1_doReturn_21 : decode cX1_doReturn 21 = .ok (.invokevirtual 61, 3) := by decide +kernel
theorem dX1_doReturn_24 : decode cX1_doReturn 24 = .ok (.istore_n 2, 1) := by decide +kernel
theorem dX1_doReturn_25 : decode cX1_doReturn 25 = .ok (.iload_n 2, 1) := by decide +kernel
theorem dX1_doReturn_26 : decode cX1_doReturn 26 = .ok (.iconst (-1), 1) := by decide +kernel
theorem dX1_doReturn_27 : decode cX1_doReturn 27 = .ok (.if_icmp .eq 20, 3) := by decide +kernel
theorem dX1_doReturn_30 : decode cX1_doReturn 30 = .ok (.aload_n 0, 1) := by decide +kernel
theorem dX1_doReturn_31 : decode cX1_doReturn 31 = .ok (.getfield 13, 3) := by decide +kernel
theorem dX1_doReturn_34 : decode cX1_doReturn 34 = .ok (.iload_n 1, 1) := by decide +kernel
theorem dX1_doReturn_35 : decode cX1_doReturn 35 = .ok (.iload_n 2, 1) := by decide +kernel
theorem dX1_doReturn_36 : decode cX1_doReturn 36 = .ok (.iastore, 1) := by decide +kernel
theorem dX1_doReturn_37 : decode cX1_doReturn 37 = .ok (.aload_n 0, 1) := by decide +kernel
theorem dX1_doReturn_38 : decode cX1_doReturn 38 = .ok (.dup, 1) := by decide +kernel
theorem dX1_doReturn_39 : decode cX1_doReturn 39 = .ok (.getfield 31, 3) := by decide +kernel
theorem dX1_doReturn_42 : decode cX1_doReturn 42 = .ok (.iconst 3, 1) := by decide +kernel
theorem dX1_doReturn_43 : decode cX1_doReturn 43 = .ok (.iadd, 1) := by decide +kernel
theorem dX1_doReturn_44 : decode cX1_doReturn 44 = .ok (.putfield 31, 3) := by decide +kernel
theorem dX1_doReturn_47 : decode cX1_doReturn 47 = .ok (.return_, 1) := by decide +kernel
theorem dX1_doFlags_0 : decode cX1_doFlags 0 = .ok (.aload_n 0, 1) := by decide +kernel
theorem dX1_doFlags_1 : decode cX1_doFlags 1 = .ok (.getfield 19, 3) := by decide +kernel
theorem dX1_doFlags_4 : decode cX1_doFlags 4 = .ok (.iload_n 1, 1) := by decide +kernel
theorem dX1_doFlags_5 : decode cX1_doFlags 5 = .ok (.bipush 15, 2) := by decide +kernel
theorem dX1_doFlags_7 : decode cX1_doFlags 7 = .ok (.iand, 1) := by decide +kernel
theorem dX1_doFlags_8 : decode cX1_doFlags 8 = .ok (.iload_n 1, 1) := by decide +kernel
theorem dX1_doFlags_9 : decode cX1_doFlags 9 = .ok (.bipush 16, 2) := by decide +kernel
theorem dX1_doFlags_11 : decode cX1_doFlags 11 = .ok (.iand, 1) := by decide +kernel
theorem dX1_doFlags_12 : decode cX1_doFlags 12 = .ok (.ifCond .eq 7, 3) := by decide +kernel
theorem dX1_doFlags_15 : decode cX1_doFlags 15 = .ok (.iconst 1, 1) := by decide +kernel
theorem dX1_doFlags_16 : decode cX1_doFlags 16 = .ok (.goto 4, 3) := by decide +kernel
theorem dX1_doFlags_19 : decode cX1_doFlags 19 = .ok (.iconst 0, 1) := by decide +kernel
theorem dX1_doFlags_20 : decode cX1_doFlags 20 = .ok (.invokevirtual 139, 3) := by decide +kernel
theorem dX1_doFlags_23 : decode cX1_doFlags 23 = .ok (.aload_n 0, 1) := by decide +kernel
theorem dX1_doFlags_24 : decode cX1_doFlags 24 = .ok (.dup, 1) := by decide +kernel
theorem dX1_doFlags_25 : decode cX1_doFlags 25 = .ok (.getfield 31, 3) := by decide +kernel
theorem dX1_doFlags_28 : decode cX1_doFlags 28 = .ok (.iconst 1, 1) := by decide +kernel
theorem dX1_doFlags_29 : decode cX1_doFlags 29 = .ok (.iadd, 1) := by decide +kernel
theorem dX1_doFlags_30 : decode cX1_doFlags 30 = .ok (.putfield 31, 3) := by decide +kernel
theorem dX1_doFlags_33 : decode cX1_doFlags 33 = .ok (.return_, 1) := by decide +kernel
theorem dX1_run_0 : decode cX1_run 0 = .ok (.iload_n 1, 1) := by decide +kernel
theorem dX1_run_1 : decode cX1_run 1 = .ok (.sipush 10000, 3) := by decide +kernel
theorem dX1_run_4 : decode cX1_run 4 = .ok (.invokestatic 52, 3) := by decide +kernel
theorem dX1_run_7 : decode cX1_run 7 = .ok (.istore_n 2, 1) := by decide +kernel
theorem dX1_run_8 : decode cX1_run 8 = .ok (.iconst 0, 1) := by decide +kernel
theorem dX1_run_9 : decode cX1_run 9 = .ok (.istore_n 3, 1) := by decide +kernel
theorem dX1_run_10 : decode cX1_run 10 = .ok (.iload_n 3, 1) := by decide +kernel
theorem dX1_run_11 : decode cX1_run 11 = .ok (.iload_n 2, 1) := by decide +kernel
theorem dX1_run_12 : decode cX1_run 12 = .ok (.if_icmp .ge 24, 3) := by decide +kernel
theorem dX1_run_15 : decode cX1_run 15 = .ok (.aload_n 0, 1) := by decide +kernel
theorem dX1_run_16 : decode cX1_run 16 = .ok (.getfield 23, 3) := by decide +kernel
theorem dX1_run_19 : decode cX1_run 19 = .ok (.ifCond .ne 17, 3) := by decide +kernel
theorem dX1_run_22 : decode cX1_run 22 = .ok (.aload_n 0, 1) := by decide +kernel
theorem dX1_run_23 : decode cX1_run 23 = .ok (.invokevirtual 49, 3) := by decide +kernel
theorem dX1_run_26 : decode cX1_run 26 = .ok (.iconst (-1), 1) := by decide +kernel
theorem dX1_run_27 : decode cX1_run 27 = .ok (.if_icmp .eq 9, 3) := by decide +kernel
theorem dX1_run_30 : decode cX1_run 30 = .ok (.iinc 3 1, 3) := by decide +kernel
theorem dX1_run_33 : decode cX1_run 33 = .ok (.goto (-23), 3) := by decide +kernel
theorem dX1_run_36 : decode cX1_run 36 = .ok (.iload_n 3, 1) := by decide +kernel
theorem dX1_run_37 : decode cX1_run 37 = .ok (.ireturn, 1) := by decide +kernel
theorem dX1_cycles_0 : decode cX1_cycles 0 = .ok (.aload_n 0, 1) := by decide +kernel
theorem dX1_cycles_1 : decode cX1_cycles 1 = .ok (.getfield 27, 3) := by decide +kernel
theorem dX1_cycles_4 : decode cX1_cycles 4 = .ok (.lreturn, 1) := by decide +kernel
theorem dX1_stopped_0 : decode cX1_stopped 0 = .ok (.aload_n 0, 1) := by decide +kernel
theorem dX1_stopped_1 : decode cX1_stopped 1 = .ok (.getfield 23, 3) := by decide +kernel
theorem dX1_stopped_4 : decode cX1_stopped 4 = .ok (.ireturn, 1) := by decide +kernel
theorem dX1_go_0 : decode cX1_go 0 = .ok (.aload_n 0, 1) := by decide +kernel
theorem dX1_go_1 : decode cX1_go 1 = .ok (.getfield 23, 3) := by decide +kernel
theorem dX1_go_4 : decode cX1_go 4 = .ok (.ifCond .eq 7, 3) := by decide +kernel
theorem dX1_go_7 : decode cX1_go 7 = .ok (.iconst 1, 1) := by decide +kernel
theorem dX1_go_8 : decode cX1_go 8 = .ok (.goto 4, 3) := by decide +kernel
theorem dX1_go_11 : decode cX1_go 11 = .ok (.iconst 0, 1) := by decide +kernel
theorem dX1_go_12 : decode cX1_go 12 = .ok (.istore_n 1, 1) := by decide +kernel
theorem dX1_go_13 : decode cX1_go 13 = .ok (.aload_n 0, 1) := by decide +kernel
theorem dX1_go_14 : decode cX1_go 14 = .ok (.iconst 0, 1) := by decide +kernel
theorem dX1_go_15 : decode cX1_go 15 = .ok (.putfield 23, 3) := by decide +kernel
theorem dX1_go_18 : decode cX1_go 18 = .ok (.iload_n 1, 1) := by decide +kernel
theorem dX1_go_19 : decode cX1_go 19 = .ok (.ireturn, 1) := by decide +kernel
