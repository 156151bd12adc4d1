theorem dX2_back_12 : decode cX2_back 12 = .ok (.getfield 13, 3) := by decide +kernel
theorem dX2_back_15 : decode cX2_back 15 = .ok (.iload_n 2, 1) := by decide +kernel
theorem dX2_back_16 : decode cX2_back 16 = .ok (.iaload, 1) := by decide +kernel
theorem dX2_back_17 : decode cX2_back 17 = .ok (.iastore, 1) := by decide +kernel
theorem dX2_back_18 : decode cX2_back 18 = .ok (.aload_n 0, 1) := by decide +kernel
theorem dX2_back_19 : decode cX2_back 19 = .ok (.getfield 13, 3) := by decide +kernel
theorem dX2_back_22 : decode cX2_back 22 = .ok (.bipush 6, 2) := by decide +kernel
theorem dX2_back_24 : decode cX2_back 24 = .ok (.iaload, 1) := by decide +kernel
theorem dX2_back_25 : decode cX2_back 25 = .ok (.istore_n 3, 1) := by decide +kernel
theorem dX2_back_26 : decode cX2_back 26 = .ok (.aload_n 0, 1) := by decide +kernel
theorem dX2_back_27 : decode cX2_back 27 = .ok (.bipush 6, 2) := by decide +kernel
theorem dX2_back_29 : decode cX2_back 29 = .ok (.iconst 2, 1) := by decide +kernel
theorem dX2_back_30 : decode cX2_back 30 = .ok (.invokevirtual 28, 3) := by decide +kernel
theorem dX2_back_33 : decode cX2_back 33 = .ok (.aload_n 0, 1) := by decide +kernel
theorem dX2_back_34 : decode cX2_back 34 = .ok (.iload_n 3, 1) := by decide +kernel
theorem dX2_back_35 : decode cX2_back 35 = .ok (.invokevirtual 32, 3) := by decide +kernel
theorem dX2_back_38 : decode cX2_back 38 = .ok (.istore 4, 2) := by decide +kernel
theorem dX2_back_40 : decode cX2_back 40 = .ok (.aload_n 0, 1) := by decide +kernel
theorem dX2_back_41 : decode cX2_back 41 = .ok (.getfield 25, 3) := by decide +kernel
theorem dX2_back_44 : decode cX2_back 44 = .ok (.ifCond .le 4, 3) := by decide +kernel
theorem dX2_back_47 : decode cX2_back 47 = .ok (.return_, 1) := by decide +kernel
theorem dX2_back_48 : decode cX2_back 48 = .ok (.aload_n 0, 1) := by decide +kernel
theorem dX2_back_49 : decode cX2_back 49 = .ok (.getfield 13, 3) := by decide +kernel
theorem dX2_back_52 : decode cX2_back 52 = .ok (.iload_n 2, 1) := by decide +kernel
theorem dX2_back_53 : decode cX2_back 53 = .ok (.iload 4, 2) := by decide +kernel
theorem dX2_back_55 : decode cX2_back 55 = .ok (.iastore, 1) := by decide +kernel
theorem dX2_back_56 : decode cX2_back 56 = .ok (.aload_n 0, 1) := by decide +kernel
theorem dX2_back_57 : decode cX2_back 57 = .ok (.dup, 1) := by decide +kernel
theorem dX2_back_58 : decode cX2_back 58 = .ok (.getfield 39, 3) := by decide +kernel
theorem dX2_back_61 : decode cX2_back 61 = .ok (.iconst 3, 1) := by decide +kernel
theorem dX2_back_62 : decode cX2_back 62 = .ok (.iadd, 1) := by decide +kernel
theorem dX2_back_63 : decode cX2_back 63 = .ok (.putfield 39, 3) := by decide +kernel
theorem dX2_back_66 : decode cX2_back 66 = .ok (.return_, 1) := by decide +kernel
theorem dX2_flag_0 : decode cX2_flag 0 = .ok (.aload_n 0, 1) := by decide +kernel
theorem dX2_flag_1 : decode cX2_flag 1 = .ok (.dup, 1) := by decide +kernel
theorem dX2_flag_2 : decode cX2_flag 2 = .ok (.getfield 39, 3) := by decide +kernel
theorem dX2_flag_5 : decode cX2_flag 5 = .ok (.iconst 1, 1) := by decide +kernel
theorem dX2_flag_6 : decode cX2_flag 6 = .ok (.iadd, 1) := by decide +kernel
theorem dX2_flag_7 : decode cX2_flag 7 = .ok (.putfield 39, 3) := by decide +kernel
theorem dX2_flag_10 : decode cX2_flag 10 = .ok (.aload_n 0, 1) := by decide +kernel
theorem dX2_flag_11 : decode cX2_flag 11 = .ok (.iload_n 1, 1) := by decide +kernel
theorem dX2_flag_12 : decode cX2_flag 12 = .ok (.bipush 16, 2) := by decide +kernel
theorem dX2_flag_14 : decode cX2_flag 14 = .ok (.iand, 1) := by decide +kernel
theorem dX2_flag_15 : decode cX2_flag 15 = .ok (.ifCond .eq 15, 3) := by decide +kernel
theorem dX2_flag_18 : decode cX2_flag 18 = .ok (.aload_n 0, 1) := by decide +kernel
theorem dX2_flag_19 : decode cX2_flag 19 = .ok (.getfield 17, 3) := by decide +kernel
theorem dX2_flag_22 : decode cX2_flag 22 = .ok (.iload_n 1, 1) := by decide +kernel
theorem dX2_flag_23 : decode cX2_flag 23 = .ok (.bipush 15, 2) := by decide +kernel
theorem dX2_flag_25 : decode cX2_flag 25 = .ok (.iand, 1) := by decide +kernel
theorem dX2_flag_26 : decode cX2_flag 26 = .ok (.ior, 1) := by decide +kernel
theorem dX2_flag_27 : decode cX2_flag 27 = .ok (.goto 14, 3) := by decide +kernel
theorem dX2_flag_30 : decode cX2_flag 30 = .ok (.aload_n 0, 1) := by decide +kernel
theorem dX2_flag_31 : decode cX2_flag 31 = .ok (.getfield 17, 3) := by decide +kernel
theorem dX2_flag_34 : decode cX2_flag 34 = .ok (.iload_n 1, 1) := by decide +kernel
theorem dX2_flag_35 : decode cX2_flag 35 = .ok (.iconst (-1), 1) := by decide +kernel
theorem dX2_flag_36 : decode cX2_flag 36 = .ok (.ixor, 1) := by decide +kernel
theorem dX2_flag_37 : decode cX2_flag 37 = .ok (.iand, 1) := by decide +kernel
theorem dX2_flag_38 : decode cX2_flag 38 = .ok (.bipush 15, 2) := by decide +kernel
theorem dX2_flag_40 : decode cX2_flag 40 = .ok (.iand, 1) := by decide +kernel
theorem dX2_flag_41 : decode cX2_flag 41 = .ok (.putfield 17, 3) := by decide +kernel
theorem dX2_flag_44 : decode cX2_flag 44 = .ok (.return_, 1) := by decide +kernel
theorem dX2_doTwo_0 : decode cX2_doTwo 0 = .ok (.iload_n 1, 1) := by decide +kernel
theorem dX2_doTwo_1 : decode cX2_doTwo 1 = .ok (.bipush 12, 2) := by decide +kernel
theorem dX2_doTwo_3 : decode cX2_doTwo 3 = .ok (.ishr, 1) := by decide +kernel
theorem dX2_doTwo_4 : decode cX2_doTwo 4 = .ok (.istore_n 2, 1) := by decide +kernel
theorem dX2_doTwo_5 : decode cX2_doTwo 5 = .ok (.iload_n 2, 1) := by decide +kernel
theorem dX2_doTwo_6 : decode cX2_doTwo 6 = .ok (.bipush 8, 2) := by decide +kernel
theorem dX2_doTwo_8 : decode cX2_doTwo 8 = .ok (.if_icmp .le 13, 3) := by decide +kernel
theorem dX2_doTwo_11 : decode cX2_doTwo 11 = .ok (.iload_n 2, 1) := by decide +kernel
theorem dX2_doTwo_12 : decode cX2_doTwo 12 = .ok (.bipush 14, 2) := by decide +kernel
theorem dX2_doTwo_14 : decode cX2_doTwo 14 = .ok (.if_icmp .ge 7, 3) := by decide +kernel
theorem dX2_doTwo_17 : decode cX2_doTwo 17 = .ok (.iconst 1, 1) := by decide +kernel
theorem dX2_doTwo_18 : decode cX2_doTwo 18 = .ok (.goto 4, 3) := by decide +kernel
theorem dX2_doTwo_21 : decode cX2_doTwo 21 = .ok (.iconst 0, 1) := by decide +kernel
theorem dX2_doTwo_22 : decode cX2_doTwo 22 = .ok (.istore_n 3, 1) := by decide +kernel
theorem dX2_doTwo_23 : decode cX2_doTwo 23 = .ok (.iload_n 2, 1) := by decide +kernel
theorem dX2_doTwo_24 : decode cX2_doTwo 24 = .ok (.bipush 14, 2) := by decide +kernel
theorem dX2_doTwo_26 : decode cX2_doTwo 26 = .ok (.if_icmp .ne 8, 3) := by decide +kernel
theorem dX2_doTwo_29 : decode cX2_doTwo 29 = .ok (.bipush 7, 2) := by decide +kernel
theorem dX2_doTwo_31 : decode cX2_doTwo 31 = .ok (.goto 7, 3) := by decide +kernel
theorem dX2_doTwo_34 : decode cX2_doTwo 34 = .ok (.iload_n 2, 1) := by decide +kernel
theorem dX2_doTwo_35 : decode cX2_doTwo 35 = .ok (.bipush 7, 2) := by decide +kernel
theorem dX2_doTwo_37 : decode cX2_doTwo 37 = .ok (.iand, 1) := by decide +kernel
theorem dX2_doTwo_38 : decode cX2_doTwo 38 = .ok (.istore 4, 2) := by decide +kernel
theorem dX2_doTwo_40 : decode cX2_doTwo 40 = .ok (.aload_n 0, 1) := by decide +kernel
theorem dX2_doTwo_41 : decode cX2_doTwo 41 = .ok (.iload_n 1, 1) := by decide +kernel
theorem dX2_doTwo_42 : decode cX2_doTwo 42 = .ok (.bipush 6, 2) := by decide +kernel
theorem dX2_doTwo_44 : decode cX2_doTwo 44 = .ok (.ishr, 1) := by decide +kernel
theorem dX2_doTwo_45 : decode cX2_doTwo 45 = .ok (.bipush 63, 2) := by decide +kernel
theorem dX2_doTwo_47 : decode cX2_doTwo 47 = .ok (.iand, 1) := by decide +kernel
theorem dX2_doTwo_48 : decode cX2_doTwo 48 = .ok (.iload_n 3, 1) := by decide +kernel
theorem dX2_doTwo_49 : decode cX2_doTwo 49 = .ok (.invokevirtual 54, 3) := by decide +kernel
theorem dX2_doTwo_52 : decode cX2_doTwo 52 = .ok (.aload_n 0, 1) := by decide +kernel
theorem dX2_doTwo_53 : decode cX2_doTwo 53 = .ok (.iload_n 3, 1) := by decide +kernel
theorem dX2_doTwo_54 : decode cX2_doTwo 54 = .ok (.invokevirtual 58, 3) := by decide +kernel
theorem dX2_doTwo_57 : decode cX2_doTwo 57 = .ok (.istore 5, 2) := by decide +kernel
theorem dX2_doTwo_59 : decode cX2_doTwo 59 = .ok (.aload_n 0, 1) := by decide +kernel
theorem dX2_doTwo_60 : decode cX2_doTwo 60 = .ok (.getfield 25, 3) := by decide +kernel
theorem dX2_doTwo_63 : decode cX2_doTwo 63 = .ok (.ifCond .le 4, 3) := by decide +kernel
theorem dX2_doTwo_66 : decode cX2_doTwo 66 = .ok (.return_, 1) := by decide +kernel
theorem dX2_doTwo_67 : decode cX2_doTwo 67 = .ok (.aload_n 0, 1) := by decide +kernel
theorem dX2_doTwo_68 : decode cX2_doTwo 68 = .ok (.iload_n 1, 1) := by decide +kernel
theorem dX2_doTwo_69 : decode cX2_doTwo 69 = .ok (.bipush 63, 2) := by decide +kernel
theorem dX2_doTwo_71 : decode cX2_doTwo 71 = .ok (.iand, 1) := by decide +kernel
theorem dX2_doTwo_72 : decode cX2_doTwo 72 = .ok (.iload_n 3, 1) := by decide +kernel
theorem dX2_doTwo_73 : decode cX2_doTwo 73 = .ok (.invokevirtual 54, 3) := by decide +kernel
theorem dX2_doTwo_76 : decode cX2_doTwo 76 = .ok (.aload_n 0, 1) := by decide +kernel
theorem dX2_doTwo_77 : decode cX2_doTwo 77 = .ok (.iload_n 3, 1) := by decide +kernel
theorem dX2_doTwo_78 : decode cX2_doTwo 78 = .ok (.invokevirtual 58, 3) := by decide +kernel
theorem dX2_doTwo_81 : decode cX2_doTwo 81 = .ok (.istore 6, 2) := by decide +kernel
theorem dX2_doTwo_83 : decode cX2_doTwo 83 = .ok (.aload_n 0, 1) := by decide +kernel
theorem dX2_doTwo_84 : decode cX2_doTwo 84 = .ok (.getfield 25, 3) := by decide +kernel
theorem dX2_doTwo_87 : decode cX2_doTwo 87 = .ok (.ifCond .le 4, 3) := by decide +kernel
theorem dX2_doTwo_90 : decode cX2_doTwo 90 = .ok (.return_, 1) := by decide +kernel
theorem dX2_doTwo_91 : decode cX2_doTwo 91 = .ok (.aload_n 0, 1) := by decide +kernel
theorem dX2_doTwo_92 : decode cX2_doTwo 92 = .ok (.dup, 1) := by decide +kernel
theorem dX2_doTwo_93 : decode cX2_doTwo 93 = .ok (.getfield 39, 3) := by decide +kernel
theorem dX2_doTwo_96 : decode cX2_doTwo 96 = .ok (.iconst 1, 1) := by decide +kernel
theorem dX2_doTwo_97 : decode cX2_doTwo 97 = .ok (.iadd, 1) := by decide +kernel
theorem dX2_doTwo_98 : decode cX2_doTwo 98 = .ok (.putfield 39, 3) := by decide +kernel
theorem dX2_doTwo_101 : decode cX2_doTwo 101 = .ok (.aload_n 0, 1) := by decide +kernel
theorem dX2_doTwo_102 : decode cX2_doTwo 102 = .ok (.iload 4, 2) := by decide +kernel
theorem dX2_doTwo_104 : decode cX2_doTwo 104 = .ok (.iload 5, 2) := by decide +kernel
theorem dX2_doTwo_106 : decode cX2_doTwo 106 = .ok (.iload 6, 2) := by decide +kernel
theorem dX2_doTwo_108 : decode cX2_doTwo 108 = .ok (.iload_n 3, 1) := by decide +kernel
theorem dX2_doTwo_109 : decode cX2_doTwo 109 = .ok (.ifCond .eq 9, 3) := by decide +kernel
theorem dX2_doTwo_112 : decode cX2_doTwo 112 = .ok (.sipush 128, 3) := by decide +kernel
theorem dX2_doTwo_115 : decode cX2_doTwo 115 = .ok (.goto 5, 3) := by decide +kernel
theorem dX2_doTwo_118 : decode cX2_doTwo 118 = .ok (.ldc 62, 2) := by decide +kernel
theorem dX2_doTwo_120 : decode cX2_doTwo 120 = .ok (.invokevirtual 63, 3) := by decide +kernel
theorem dX2_doTwo_123 : decode cX2_doTwo 123 = .ok (.istore 7, 2) := by decide +kernel
theorem dX2_doTwo_125 : decode cX2_doTwo 125 = .ok (.iload 4, 2) := by decide +kernel
theorem dX2_doTwo_127 : decode cX2_doTwo 127 = .ok (.iconst 2, 1) := by decide +kernel
theorem dX2_doTwo_128 : decode cX2_doTwo 128 = .ok (.if_icmp .eq 27, 3) := by decide +kernel
theorem dX2_doTwo_131 : decode cX2_doTwo 131 = .ok (.iload 4, 2) := by decide +kernel
theorem dX2_doTwo_133 : decode cX2_doTwo 133 = .ok (.iconst 3, 1) := by decide +kernel
theorem dX2_doTwo_134 : decode cX2_doTwo 134 = .ok (.if_icmp .eq 21, 3) := by decide +kernel
theorem dX2_doTwo_137 : decode cX2_doTwo 137 = .ok (.aload_n 0, 1) := by decide +kernel
theorem dX2_doTwo_138 : decode cX2_doTwo 138 = .ok (.iload 7, 2) := by decide +kernel
theorem dX2_doTwo_140 : decode cX2_doTwo 140 = .ok (.iload_n 3, 1) := by decide +kernel
theorem dX2_doTwo_141 : decode cX2_doTwo 141 = .ok (.iload 4, 2) := by decide +kernel
theorem dX2_doTwo_143 : decode cX2_doTwo 143 = .ok (.iconst 1, 1) := by decide +kernel
theorem dX2_doTwo_144 : decode cX2_doTwo 144 = .ok (.if_icmp .ne 7, 3) := by decide +kernel
theorem dX2_doTwo_147 : decode cX2_doTwo 147 = .ok (.iconst 1, 1) := by decide +kernel
theorem dX2_doTwo_148 : decode cX2_doTwo 148 = .ok (.goto 4, 3) := by decide +kernel
theorem dX2_doTwo_151 : decode cX2_doTwo 151 = .ok (.iconst 0, 1) := by decide +kernel
theorem dX2_doTwo_152 : decode cX2_doTwo 152 = .ok (.invokevirtual 67, 3) := by decide +kernel
theorem dX2_doTwo_155 : decode cX2_doTwo 155 = .ok (.return_, 1) := by decide +kernel
theorem dX2_two_0 : decode cX2_two 0 = .ok (.iconst 2, 1) := by decide +kernel
theorem dX2_two_1 : decode cX2_two 1 = .ok (.iload 4, 2) := by decide +kernel
theorem dX2_two_3 : decode cX2_two 3 = .ok (.imul, 1) := by decide +kernel
theorem dX2_two_4 : decode cX2_two 4 = .ok (.iconst 1, 1) := by decide +kernel
theorem dX2_two_5 : decode cX2_two 5 = .ok (.isub, 1) := by decide +kernel
theorem dX2_two_6 : decode cX2_two 6 = .ok (.istore 5, 2) := by decide +kernel
theorem dX2_two_8 : decode cX2_two 8 = .ok (.aload_n 0, 1) := by decide +kernel
theorem dX2_two_9 : decode cX2_two 9 = .ok (.getfield 17, 3) := by decide +kernel
theorem dX2_two_12 : decode cX2_two 12 = .ok (.iconst 1, 1) := by decide +kernel
theorem dX2_two_13 : decode cX2_two 13 = .ok (.iand, 1) := by decide +kernel
theorem dX2_two_14 : decode cX2_two 14 = .ok (.ifCond .eq 7, 3) := by decide +kernel
theorem dX2_two_17 : decode cX2_two 17 = .ok (.iconst 1, 1) := by decide +kernel
theorem dX2_two_18 : decode cX2_two 18 = .ok (.goto 4, 3) := by decide +kernel
theorem dX2_two_21 : decode cX2_two 21 = .ok (.iconst 0, 1) := by decide +kernel
theorem dX2_two_22 : decode cX2_two 22 = .ok (.istore 6, 2) := by decide +kernel
theorem dX2_two_24 : decode cX2_two 24 = .ok (.iload_n 1, 1) := by decide +kernel
theorem dX2_two_25 : decode cX2_two 25 = .ok (.iconst 2, 1) := by decide +kernel
theorem dX2_two_26 : decode cX2_two 26 = .ok (.if_icmp .ne 7, 3) := by decide +kernel
theorem dX2_two_29 : decode cX2_two 29 = .ok (.iload_n 2, 1) := by decide +kernel
theorem dX2_two_30 : decode cX2_two 30 = .ok (.goto 4, 3) := by decide +kernel
theorem dX2_two_33 : decode cX2_two 33 = .ok (.iload_n 3, 1) := by decide +kernel
theorem dX2_two_34 : decode cX2_two 34 = .ok (.istore 7, 2) := by decide +kernel
theorem dX2_two_36 : decode cX2_two 36 = .ok (.iload_n 1, 1) := by decide +kernel
theorem dX2_two_37 : decode cX2_two 37 = .ok (.iconst 2, 1) := by decide +kernel
theorem dX2_two_38 : decode cX2_two 38 = .ok (.if_icmp .ne 7, 3) := by decide +kernel
theorem dX2_two_41 : decode cX2_two 41 = .ok (.iload_n 3, 1) := by decide +kernel
theorem dX2_two_42 : decode cX2_two 42 = .ok (.goto 4, 3) := by decide +kernel
theorem dX2_two_45 : decode cX2_two 45 = .ok (.iload_n 2, 1) := by decide +kernel
theorem dX2_two_46 : decode cX2_two 46 = .ok (.istore 8, 2) := by decide +kernel
theorem dX2_two_48 : decode cX2_two 48 = .ok (.iload_n 1, 1) := by decide +kernel
theorem dX2_two_49 : decode cX2_two 49 = .ok (.iconst 1, 1) := by decide +kernel
theorem dX2_two_50 : decode cX2_two 50 = .ok (.if_icmp .ne 7, 3) := by decide +kernel
theorem dX2_two_53 : decode cX2_two 53 = .ok (.iload_n 2, 1) := by decide +kernel
theorem dX2_two_54 : decode cX2_two 54 = .ok (.goto 61, 3) := by decide +kernel
theorem dX2_two_57 : decode cX2_two 57 = .ok (.iload_n 1, 1) := by decide +kernel
theorem dX2_two_58 : decode cX2_two 58 = .ok (.iconst 3, 1) := by decide +kernel
theorem dX2_two_59 : decode cX2_two 59 = .ok (.if_icmp .ne 9, 3) := by decide +kernel
theorem dX2_two_62 : decode cX2_two 62 = .ok (.iload_n 2, 1) := by decide +kernel
theorem dX2_two_63 : decode cX2_two 63 = .ok (.iload_n 3, 1) := by decide +kernel
theorem dX2_two_64 : decode cX2_two 64 = .ok (.iand, 1) := by decide +kernel
theorem dX2_two_65 : decode cX2_two 65 = .ok (.goto 50, 3) := by decide +kernel
theorem dX2_two_68 : decode cX2_two 68 = .ok (.iload_n 1, 1) := by decide +kernel
theorem dX2_two_69 : decode cX2_two 69 = .ok (.iconst 4, 1) := by decide +kernel
theorem dX2_two_70 : decode cX2_two 70 = .ok (.if_icmp .ne 11, 3) := by decide +kernel
theorem dX2_two_73 : decode cX2_two 73 = .ok (.iload_n 3, 1) := by decide +kernel
theorem dX2_two_74 : decode cX2_two 74 = .ok (.iload_n 2, 1) := by decide +kernel
theorem dX2_two_75 : decode cX2_two 75 = .ok (.iconst (-1), 1) := by decide +kernel
theorem dX2_two_76 : decode cX2_two 76 = .ok (.ixor, 1) := by decide +kernel
theorem dX2_two_77 : decode cX2_two 77 = .ok (.iand, 1) := by decide +kernel
theorem dX2_two_78 : decode cX2_two 78 = .ok (.goto 37, 3) := by decide +kernel
theorem dX2_two_81 : decode cX2_two 81 = .ok (.iload_n 1, 1) := by decide +kernel
theorem dX2_two_82 : decode cX2_two 82 = .ok (.iconst 5, 1) := by decide +kernel
theorem dX2_two_83 : decode cX2_two 83 = .ok (.if_icmp .ne 9, 3) := by decide +kernel
theorem dX2_two_86 : decode cX2_two 86 = .ok (.iload_n 2, 1) := by decide +kernel
theorem dX2_two_87 : decode cX2_two 87 = .ok (.iload_n 3, 1) := by decide +kernel
theorem dX2_two_88 : decode cX2_two 88 = .ok (.ior, 1) := by decide +kernel
theorem dX2_two_89 : decode cX2_two 89 = .ok (.goto 26, 3) := by decide +kernel
theorem dX2_two_92 : decode cX2_two 92 = .ok (.iload_n 1, 1) := by decide +kernel
theorem dX2_two_93 : decode cX2_two 93 = .ok (.bipush 6, 2) := by decide +kernel
theorem dX2_two_95 : decode cX2_two 95 = .ok (.if_icmp .ne 12, 3) := by decide +kernel
theorem dX2_two_98 : decode cX2_two 98 = .ok (.iload_n 3, 1) := by decide +kernel
theorem dX2_two_99 : decode cX2_two 99 = .ok (.iload_n 2, 1) := by decide +kernel
theorem dX2_two_100 : decode cX2_two 100 = .ok (.iadd, 1) := by decide +kernel
theorem dX2_two_101 : decode cX2_two 101 = .ok (.iload 5, 2) := by decide +kernel
theorem dX2_two_103 : decode cX2_two 103 = .ok (.iand, 1) := by decide +kernel
theorem dX2_two_104 : decode cX2_two 104 = .ok (.goto 11, 3) := by decide +kernel
theorem dX2_two_107 : decode cX2_two 107 = .ok (.iload 7, 2) := by decide +kernel
theorem dX2_two_109 : decode cX2_two 109 = .ok (.iload 8, 2) := by decide +kernel
theorem dX2_two_111 : decode cX2_two 111 = .ok (.isub, 1) := by decide +kernel
theorem dX2_two_112 : decode cX2_two 112 = .ok (.iload 5, 2) := by decide +kernel
theorem dX2_two_114 : decode cX2_two 114 = .ok (.iand, 1) := by decide +kernel
theorem dX2_two_115 : decode cX2_two 115 = .ok (.istore 9, 2) := by decide +kernel
theorem dX2_two_117 : decode cX2_two 117 = .ok (.iload_n 1, 1) := by decide +kernel
theorem dX2_two_118 : decode cX2_two 118 = .ok (.bipush 6, 2) := by decide +kernel
theorem dX2_two_120 : decode cX2_two 120 = .ok (.if_icmp .ne 55, 3) := by decide +kernel
theorem dX2_two_123 : decode cX2_two 123 = .ok (.aload_n 0, 1) := by decide +kernel
theorem dX2_two_124 : decode cX2_two 124 = .ok (.iload 9, 2) := by decide +kernel
theorem dX2_two_126 : decode cX2_two 126 = .ok (.iload 4, 2) := by decide +kernel
theorem dX2_two_128 : decode cX2_two 128 = .ok (.iload_n 2, 1) := by decide +kernel
theorem dX2_two_129 : decode cX2_two 129 = .ok (.iload 4, 2) := by decide +kernel
theorem dX2_two_131 : decode cX2_two 131 = .ok (.iand, 1) := by decide +kernel
theorem dX2_two_132 : decode cX2_two 132 = .ok (.iload_n 3, 1) := by decide +kernel
theorem dX2_two_133 : decode cX2_two 133 = .ok (.iload 4, 2) := by decide +kernel
theorem dX2_two_135 : decode cX2_two 135 = .ok (.iand, 1) := by decide +kernel
theorem dX2_two_136 : decode cX2_two 136 = .ok (.if_icmp .ne 19, 3) := by decide +kernel
theorem dX2_two_139 : decode cX2_two 139 = .ok (.iload 9, 2) := by decide +kernel
theorem dX2_two_141 : decode cX2_two 141 = .ok (.iload 4, 2) := by decide +kernel
theorem dX2_two_143 : decode cX2_two 143 = .ok (.iand, 1) := by decide +kernel
theorem dX2_two_144 : decode cX2_two 144 = .ok (.iload_n 2, 1) := by decide +kernel
theorem dX2_two_145 : decode cX2_two 145 = .ok (.iload 4, 2) := by decide +kernel
theorem dX2_two_147 : decode cX2_two 147 = .ok (.iand, 1) := by decide +kernel
theorem dX2_two_148 : decode cX2_two 148 = .ok (.if_icmp .eq 7, 3) := by decide +kernel
theorem dX2_two_151 : decode cX2_two 151 = .ok (.iconst 1, 1) := by decide +kernel
theorem dX2_two_152 : decode cX2_two 152 = .ok (.goto 4, 3) := by decide +kernel
theorem dX2_two_155 : decode cX2_two 155 = .ok (.iconst 0, 1) := by decide +kernel
theorem dX2_two_156 : decode cX2_two 156 = .ok (.iload_n 3, 1) := by decide +kernel
theorem dX2_two_157 : decode cX2_two 157 = .ok (.iload_n 2, 1) := by decide +kernel
theorem dX2_two_158 : decode cX2_two 158 = .ok (.iadd, 1) := by decide +kernel
theorem dX2_two_159 : decode cX2_two 159 = .ok (.iload 5, 2) := by decide +kernel
theorem dX2_two_161 : decode cX2_two 161 = .ok (.if_icmp .le 7, 3) := by decide +kernel
theorem dX2_two_164 : decode cX2_two 164 = .ok (.iconst 1, 1) := by decide +kernel
theorem dX2_two_165 : decode cX2_two 165 = .ok (.goto 4, 3) := by decide +kernel
theorem dX2_two_168 : decode cX2_two 168 = .ok (.iconst 0, 1) := by decide +kernel
theorem dX2_two_169 : decode cX2_two 169 = .ok (.invokevirtual 50, 3) := by decide +kernel
theorem dX2_two_172 : decode cX2_two 172 = .ok (.goto 79, 3) := by decide +kernel
theorem dX2_two_175 : decode cX2_two 175 = .ok (.iload_n 1, 1) := by decide +kernel
theorem dX2_two_176 : decode cX2_two 176 = .ok (.iconst 2, 1) := by decide +kernel
theorem dX2_two_177 : decode cX2_two 177 = .ok (.if_icmp .eq 9, 3) := by decide +kernel
theorem dX2_two_180 : decode cX2_two 180 = .ok (.iload_n 1, 1) := by decide +kernel
theorem dX2_two_181 : decode cX2_two 181 = .ok (.bipush 7, 2) := by decide +kernel
theorem dX2_two_183 : decode cX2_two 183 = .ok (.if_icmp .ne 57, 3) := by decide +kernel
theorem dX2_two_186 : decode cX2_two 186 = .ok (.aload_n 0, 1) := by decide +kernel
theorem dX2_two_187 : decode cX2_two 187 = .ok (.iload 9, 2) := by decide +kernel
theorem dX2_two_189 : decode cX2_two 189 = .ok (.iload 4, 2) := by decide +kernel
theorem dX2_two_191 : decode cX2_two 191 = .ok (.iload 7, 2) := by decide +kernel
theorem dX2_two_193 : decode cX2_two 193 = .ok (.iload 4, 2) := by decide +kernel
theorem dX2_two_195 : decode cX2_two 195 = .ok (.iand, 1) := by decide +kernel
theorem dX2_two_196 : decode cX2_two 196 = .ok (.iload 8, 2) := by decide +kernel
theorem dX2_two_198 : decode cX2_two 198 = .ok (.iload 4, 2) := by decide +kernel
theorem dX2_two_200 : decode cX2_two 200 = .ok (.iand, 1) := by decide +kernel
theorem dX2_two_201 : decode cX2_two 201 = .ok (.if_icmp .eq 20, 3) := by decide +kernel
theorem dX2_two_204 : decode cX2_two 204 = .ok (.iload 9, 2) := by decide +kernel
theorem dX2_two_206 : decode cX2_two 206 = .ok (.iload 4, 2) := by decide +kernel
theorem dX2_two_208 : decode cX2_two 208 = .ok (.iand, 1) := by decide +kernel
theorem dX2_two_209 : decode cX2_two 209 = .ok (.iload 8, 2) := by decide +kernel
theorem dX2_two_211 : decode cX2_two 211 = .ok (.iload 4, 2) := by decide +kernel
theorem dX2_two_213 : decode cX2_two 213 = .ok (.iand, 1) := by decide +kernel
theorem dX2_two_214 : decode cX2_two 214 = .ok (.if_icmp .ne 7, 3) := by decide +kernel
theorem dX2_two_217 : decode cX2_two 217 = .ok (.iconst 1, 1) := by decide +kernel
theorem dX2_two_218 : decode cX2_two 218 = .ok (.goto 4, 3) := by decide +kernel
theorem dX2_two_221 : decode cX2_two 221 = .ok (.iconst 0, 1) := by decide +kernel
theorem dX2_two_222 : decode cX2_two 222 = .ok (.iload 7, 2) := by decide +kernel
theorem dX2_two_224 : decode cX2_two 224 = .ok (.iload 8, 2) := by decide +kernel
theorem dX2_two_226 : decode cX2_two 226 = .ok (.if_icmp .ge 7, 3) := by decide +kernel
theorem dX2_two_229 : decode cX2_two 229 = .ok (.iconst 1, 1) := by decide +kernel
theorem dX2_two_230 : decode cX2_two 230 = .ok (.goto 4, 3) := by decide +kernel
theorem dX2_two_233 : decode cX2_two 233 = .ok (.iconst 0, 1) := by decide +kernel
theorem dX2_two_234 : decode cX2_two 234 = .ok (.invokevirtual 50, 3) := by decide +kernel
theorem dX2_two_237 : decode cX2_two 237 = .ok (.goto 14, 3) := by decide +kernel
theorem dX2_two_240 : decode cX2_two 240 = .ok (.aload_n 0, 1) := by decide +kernel
theorem dX2_two_241 : decode cX2_two 241 = .ok (.iload 9, 2) := by decide +kernel
theorem dX2_two_243 : decode cX2_two 243 = .ok (.iload 4, 2) := by decide +kernel
theorem dX2_two_245 : decode cX2_two 245 = .ok (.iconst 0, 1) := by decide +kernel
theorem dX2_two_246 : decode cX2_two 246 = .ok (.iload 6, 2) := by decide +kernel
theorem dX2_two_248 : decode cX2_two 248 = .ok (.invokevirtual 50, 3) := by decide +kernel
theorem dX2_two_251 : decode cX2_two 251 = .ok (.iload 9, 2) := by decide +kernel
theorem dX2_two_253 : decode cX2_two 253 = .ok (.ireturn, 1) := by decide +kernel
theorem dX2_run_0 : decode cX2_run 0 = .ok (.iconst 0, 1) := by decide +kernel
theorem dX2_run_1 : decode cX2_run 1 = .ok (.istore_n 2, 1) := by decide +kernel
theorem dX2_run_2 : decode cX2_run 2 = .ok (.iload_n 2, 1) := by decide +kernel
theorem dX2_run_3 : decode cX2_run 3 = .ok (.iload_n 1, 1) := by decide +kernel
theorem dX2_run_4 : decode cX2_run 4 = .ok (.if_icmp .ge 23, 3) := by decide +kernel
theorem dX2_run_7 : decode cX2_run 7 = .ok (.iload_n 2, 1) := by decide +kernel
theorem dX2_run_8 : decode cX2_run 8 = .ok (.sipush 10000, 3) := by decide +kernel
theorem dX2_run_11 : decode cX2_run 11 = .ok (.if_icmp .ge 16, 3) := by decide +kernel
theorem dX2_run_14 : decode cX2_run 14 = .ok (.aload_n 0, 1) := by decide +kernel
theorem dX2_run_15 : decode cX2_run 15 = .ok (.invokevirtual 108, 3) := by decide +kernel
theorem dX2_run_18 : decode cX2_run 18 = .ok (.ifCond .le 9, 3) := by decide +kernel
theorem dX2_run_21 : decode cX2_run 21 = .ok (.iinc 2 1, 3) := by decide +kernel
theorem dX2_run_24 : decode cX2_run 24 = .ok (.goto (-22), 3) := by decide +kernel
theorem dX2_run_27 : decode cX2_run 27 = .ok (.iload_n 2, 1) := by decide +kernel
theorem dX2_run_28 : decode cX2_run 28 = .ok (.ireturn, 1) := by decide +kernel
