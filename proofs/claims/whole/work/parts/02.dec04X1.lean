theorem dX1_readOperand_68 : decode cX1_readOperand 68 = .ok (.iload 4, 2) := by decide +kernel
theorem dX1_readOperand_70 : decode cX1_readOperand 70 = .ok (.bipush 6, 2) := by decide +kernel
theorem dX1_readOperand_72 : decode cX1_readOperand 72 = .ok (.if_icmp .ge 7, 3) := by decide +kernel
theorem dX1_readOperand_75 : decode cX1_readOperand 75 = .ok (.iconst 1, 1) := by decide +kernel
theorem dX1_readOperand_76 : decode cX1_readOperand 76 = .ok (.goto 4, 3) := by decide +kernel
theorem dX1_readOperand_79 : decode cX1_readOperand 79 = .ok (.iconst 2, 1) := by decide +kernel
theorem dX1_readOperand_80 : decode cX1_readOperand 80 = .ok (.invokevirtual 146, 3) := by decide +kernel
theorem dX1_readOperand_83 : decode cX1_readOperand 83 = .ok (.putfield 34, 3) := by decide +kernel
theorem dX1_readOperand_86 : decode cX1_readOperand 86 = .ok (.aload_n 0, 1) := by decide +kernel
theorem dX1_readOperand_87 : decode cX1_readOperand 87 = .ok (.getfield 34, 3) := by decide +kernel
theorem dX1_readOperand_90 : decode cX1_readOperand 90 = .ok (.iconst (-1), 1) := by decide +kernel
theorem dX1_readOperand_91 : decode cX1_readOperand 91 = .ok (.if_icmp .ne 5, 3) := by decide +kernel
theorem dX1_readOperand_94 : decode cX1_readOperand 94 = .ok (.iconst (-1), 1) := by decide +kernel
theorem dX1_readOperand_95 : decode cX1_readOperand 95 = .ok (.ireturn, 1) := by decide +kernel
theorem dX1_readOperand_96 : decode cX1_readOperand 96 = .ok (.iload_n 2, 1) := by decide +kernel
theorem dX1_readOperand_97 : decode cX1_readOperand 97 = .ok (.ifCond .eq 14, 3) := by decide +kernel
theorem dX1_readOperand_100 : decode cX1_readOperand 100 = .ok (.aload_n 0, 1) := by decide +kernel
theorem dX1_readOperand_101 : decode cX1_readOperand 101 = .ok (.aload_n 0, 1) := by decide +kernel
theorem dX1_readOperand_102 : decode cX1_readOperand 102 = .ok (.getfield 34, 3) := by decide +kernel
theorem dX1_readOperand_105 : decode cX1_readOperand 105 = .ok (.invokevirtual 149, 3) := by decide +kernel
theorem dX1_readOperand_108 : decode cX1_readOperand 108 = .ok (.goto 11, 3) := by decide +kernel
theorem dX1_readOperand_111 : decode cX1_readOperand 111 = .ok (.aload_n 0, 1) := by decide +kernel
theorem dX1_readOperand_112 : decode cX1_readOperand 112 = .ok (.aload_n 0, 1) := by decide +kernel
theorem dX1_readOperand_113 : decode cX1_readOperand 113 = .ok (.getfield 34, 3) := by decide +kernel
theorem dX1_readOperand_116 : decode cX1_readOperand 116 = .ok (.invokevirtual 61, 3) := by decide +kernel
theorem dX1_readOperand_119 : decode cX1_readOperand 119 = .ok (.ireturn, 1) := by decide +kernel
theorem dX1_findAddress_0 : decode cX1_findAddress 0 = .ok (.iload_n 1, 1) := by decide +kernel
theorem dX1_findAddress_1 : decode cX1_findAddress 1 = .ok (.tableswitch 78 1 5 #[35, 42, 49, 60, 67], 35) := by decide +kernel
theorem dX1_findAddress_36 : decode cX1_findAddress 36 = .ok (.aload_n 0, 1) := by decide +kernel
theorem dX1_findAddress_37 : decode cX1_findAddress 37 = .ok (.getfield 13, 3) := by decide +kernel
theorem dX1_findAddress_40 : decode cX1_findAddress 40 = .ok (.iload_n 2, 1) := by decide +kernel
theorem dX1_findAddress_41 : decode cX1_findAddress 41 = .ok (.iaload, 1) := by decide +kernel
theorem dX1_findAddress_42 : decode cX1_findAddress 42 = .ok (.ireturn, 1) := by decide +kernel
theorem dX1_findAddress_43 : decode cX1_findAddress 43 = .ok (.aload_n 0, 1) := by decide +kernel
theorem dX1_findAddress_44 : decode cX1_findAddress 44 = .ok (.iload_n 2, 1) := by decide +kernel
theorem dX1_findAddress_45 : decode cX1_findAddress 45 = .ok (.iload_n 3, 1) := by decide +kernel
theorem dX1_findAddress_46 : decode cX1_findAddress 46 = .ok (.invokevirtual 58, 3) := by decide +kernel
theorem dX1_findAddress_49 : decode cX1_findAddress 49 = .ok (.ireturn, 1) := by decide +kernel
theorem dX1_findAddress_50 : decode cX1_findAddress 50 = .ok (.aload_n 0, 1) := by decide +kernel
theorem dX1_findAddress_51 : decode cX1_findAddress 51 = .ok (.aload_n 0, 1) := by decide +kernel
theorem dX1_findAddress_52 : decode cX1_findAddress 52 = .ok (.iload_n 2, 1) := by decide +kernel
theorem dX1_findAddress_53 : decode cX1_findAddress 53 = .ok (.iconst 2, 1) := by decide +kernel
theorem dX1_findAddress_54 : decode cX1_findAddress 54 = .ok (.invokevirtual 58, 3) := by decide +kernel
theorem dX1_findAddress_57 : decode cX1_findAddress 57 = .ok (.invokevirtual 61, 3) := by decide +kernel
theorem dX1_findAddress_60 : decode cX1_findAddress 60 = .ok (.ireturn, 1) := by decide +kernel
theorem dX1_findAddress_61 : decode cX1_findAddress 61 = .ok (.aload_n 0, 1) := by decide +kernel
theorem dX1_findAddress_62 : decode cX1_findAddress 62 = .ok (.iload_n 2, 1) := by decide +kernel
theorem dX1_findAddress_63 : decode cX1_findAddress 63 = .ok (.iload_n 3, 1) := by decide +kernel
theorem dX1_findAddress_64 : decode cX1_findAddress 64 = .ok (.invokevirtual 133, 3) := by decide +kernel
theorem dX1_findAddress_67 : decode cX1_findAddress 67 = .ok (.ireturn, 1) := by decide +kernel
theorem dX1_findAddress_68 : decode cX1_findAddress 68 = .ok (.aload_n 0, 1) := by decide +kernel
theorem dX1_findAddress_69 : decode cX1_findAddress 69 = .ok (.aload_n 0, 1) := by decide +kernel
theorem dX1_findAddress_70 : decode cX1_findAddress 70 = .ok (.iload_n 2, 1) := by decide +kernel
theorem dX1_findAddress_71 : decode cX1_findAddress 71 = .ok (.iconst 2, 1) := by decide +kernel
theorem dX1_findAddress_72 : decode cX1_findAddress 72 = .ok (.invokevirtual 133, 3) := by decide +kernel
theorem dX1_findAddress_75 : decode cX1_findAddress 75 = .ok (.invokevirtual 61, 3) := by decide +kernel
theorem dX1_findAddress_78 : decode cX1_findAddress 78 = .ok (.ireturn, 1) := by decide +kernel
theorem dX1_findAddress_79 : decode cX1_findAddress 79 = .ok (.aload_n 0, 1) := by decide +kernel
theorem dX1_findAddress_80 : decode cX1_findAddress 80 = .ok (.aload_n 0, 1) := by decide +kernel
theorem dX1_findAddress_81 : decode cX1_findAddress 81 = .ok (.bipush 7, 2) := by decide +kernel
theorem dX1_findAddress_83 : decode cX1_findAddress 83 = .ok (.iconst 2, 1) := by decide +kernel
theorem dX1_findAddress_84 : decode cX1_findAddress 84 = .ok (.invokevirtual 58, 3) := by decide +kernel
theorem dX1_findAddress_87 : decode cX1_findAddress 87 = .ok (.invokevirtual 61, 3) := by decide +kernel
theorem dX1_findAddress_90 : decode cX1_findAddress 90 = .ok (.istore 4, 2) := by decide +kernel
theorem dX1_findAddress_92 : decode cX1_findAddress 92 = .ok (.iload 4, 2) := by decide +kernel
theorem dX1_findAddress_94 : decode cX1_findAddress 94 = .ok (.iconst (-1), 1) := by decide +kernel
theorem dX1_findAddress_95 : decode cX1_findAddress 95 = .ok (.if_icmp .ne 5, 3) := by decide +kernel
theorem dX1_findAddress_98 : decode cX1_findAddress 98 = .ok (.iconst (-1), 1) := by decide +kernel
theorem dX1_findAddress_99 : decode cX1_findAddress 99 = .ok (.ireturn, 1) := by decide +kernel
theorem dX1_findAddress_100 : decode cX1_findAddress 100 = .ok (.iload 4, 2) := by decide +kernel
theorem dX1_findAddress_102 : decode cX1_findAddress 102 = .ok (.aload_n 0, 1) := by decide +kernel
theorem dX1_findAddress_103 : decode cX1_findAddress 103 = .ok (.getfield 13, 3) := by decide +kernel
theorem dX1_findAddress_106 : decode cX1_findAddress 106 = .ok (.iload_n 2, 1) := by decide +kernel
theorem dX1_findAddress_107 : decode cX1_findAddress 107 = .ok (.iaload, 1) := by decide +kernel
theorem dX1_findAddress_108 : decode cX1_findAddress 108 = .ok (.iadd, 1) := by decide +kernel
theorem dX1_findAddress_109 : decode cX1_findAddress 109 = .ok (.ldc 41, 2) := by decide +kernel
theorem dX1_findAddress_111 : decode cX1_findAddress 111 = .ok (.iand, 1) := by decide +kernel
theorem dX1_findAddress_112 : decode cX1_findAddress 112 = .ok (.istore 5, 2) := by decide +kernel
theorem dX1_findAddress_114 : decode cX1_findAddress 114 = .ok (.iload_n 1, 1) := by decide +kernel
theorem dX1_findAddress_115 : decode cX1_findAddress 115 = .ok (.bipush 6, 2) := by decide +kernel
theorem dX1_findAddress_117 : decode cX1_findAddress 117 = .ok (.if_icmp .ne 8, 3) := by decide +kernel
theorem dX1_findAddress_120 : decode cX1_findAddress 120 = .ok (.iload 5, 2) := by decide +kernel
theorem dX1_findAddress_122 : decode cX1_findAddress 122 = .ok (.goto 9, 3) := by decide +kernel
theorem dX1_findAddress_125 : decode cX1_findAddress 125 = .ok (.aload_n 0, 1) := by decide +kernel
theorem dX1_findAddress_126 : decode cX1_findAddress 126 = .ok (.iload 5, 2) := by decide +kernel
theorem dX1_findAddress_128 : decode cX1_findAddress 128 = .ok (.invokevirtual 61, 3) := by decide +kernel
theorem dX1_findAddress_131 : decode cX1_findAddress 131 = .ok (.ireturn, 1) := by decide +kernel
theorem dX1_stepDown_0 : decode cX1_stepDown 0 = .ok (.aload_n 0, 1) := by decide +kernel
theorem dX1_stepDown_1 : decode cX1_stepDown 1 = .ok (.getfield 13, 3) := by decide +kernel
theorem dX1_stepDown_4 : decode cX1_stepDown 4 = .ok (.iload_n 1, 1) := by decide +kernel
theorem dX1_stepDown_5 : decode cX1_stepDown 5 = .ok (.aload_n 0, 1) := by decide +kernel
theorem dX1_stepDown_6 : decode cX1_stepDown 6 = .ok (.getfield 13, 3) := by decide +kernel
theorem dX1_stepDown_9 : decode cX1_stepDown 9 = .ok (.iload_n 1, 1) := by decide +kernel
theorem dX1_stepDown_10 : decode cX1_stepDown 10 = .ok (.iaload, 1) := by decide +kernel
theorem dX1_stepDown_11 : decode cX1_stepDown 11 = .ok (.iload_n 2, 1) := by decide +kernel
theorem dX1_stepDown_12 : decode cX1_stepDown 12 = .ok (.isub, 1) := by decide +kernel
theorem dX1_stepDown_13 : decode cX1_stepDown 13 = .ok (.ldc 41, 2) := by decide +kernel
theorem dX1_stepDown_15 : decode cX1_stepDown 15 = .ok (.iand, 1) := by decide +kernel
theorem dX1_stepDown_16 : decode cX1_stepDown 16 = .ok (.iastore, 1) := by decide +kernel
theorem dX1_stepDown_17 : decode cX1_stepDown 17 = .ok (.aload_n 0, 1) := by decide +kernel
theorem dX1_stepDown_18 : decode cX1_stepDown 18 = .ok (.getfield 13, 3) := by decide +kernel
theorem dX1_stepDown_21 : decode cX1_stepDown 21 = .ok (.iload_n 1, 1) := by decide +kernel
theorem dX1_stepDown_22 : decode cX1_stepDown 22 = .ok (.iaload, 1) := by decide +kernel
theorem dX1_stepDown_23 : decode cX1_stepDown 23 = .ok (.ireturn, 1) := by decide +kernel
theorem dX1_readByte_0 : decode cX1_readByte 0 = .ok (.iload_n 1, 1) := by decide +kernel
theorem dX1_readByte_1 : decode cX1_readByte 1 = .ok (.sipush 4096, 3) := by decide +kernel
theorem dX1_readByte_4 : decode cX1_readByte 4 = .ok (.if_icmp .lt 10, 3) := by decide +kernel
theorem dX1_readByte_7 : decode cX1_readByte 7 = .ok (.aload_n 0, 1) := by decide +kernel
theorem dX1_readByte_8 : decode cX1_readByte 8 = .ok (.iconst 4, 1) := by decide +kernel
theorem dX1_readByte_9 : decode cX1_readByte 9 = .ok (.putfield 23, 3) := by decide +kernel
theorem dX1_readByte_12 : decode cX1_readByte 12 = .ok (.iconst (-1), 1) := by decide +kernel
theorem dX1_readByte_13 : decode cX1_readByte 13 = .ok (.ireturn, 1) := by decide +kernel
theorem dX1_readByte_14 : decode cX1_readByte 14 = .ok (.aload_n 0, 1) := by decide +kernel
theorem dX1_readByte_15 : decode cX1_readByte 15 = .ok (.getfield 9, 3) := by decide +kernel
theorem dX1_readByte_18 : decode cX1_readByte 18 = .ok (.iload_n 1, 1) := by decide +kernel
theorem dX1_readByte_19 : decode cX1_readByte 19 = .ok (.iconst 1, 1) := by decide +kernel
theorem dX1_readByte_20 : decode cX1_readByte 20 = .ok (.ishr, 1) := by decide +kernel
theorem dX1_readByte_21 : decode cX1_readByte 21 = .ok (.iaload, 1) := by decide +kernel
theorem dX1_readByte_22 : decode cX1_readByte 22 = .ok (.iload_n 1, 1) := by decide +kernel
theorem dX1_readByte_23 : decode cX1_readByte 23 = .ok (.invokestatic 152, 3) := by decide +kernel
theorem dX1_readByte_26 : decode cX1_readByte 26 = .ok (.ishr, 1) := by decide +kernel
theorem dX1_readByte_27 : decode cX1_readByte 27 = .ok (.sipush 255, 3) := by decide +kernel
theorem dX1_readByte_30 : decode cX1_readByte 30 = .ok (.iand, 1) := by decide +kernel
theorem dX1_readByte_31 : decode cX1_readByte 31 = .ok (.ireturn, 1) := by decide +kernel
theorem dX1_shiftOf_0 : decode cX1_shiftOf 0 = .ok (.iload_n 0, 1) := by decide +kernel
theorem dX1_shiftOf_1 : decode cX1_shiftOf 1 = .ok (.iconst 1, 1) := by decide +kernel
theorem dX1_shiftOf_2 : decode cX1_shiftOf 2 = .ok (.iand, 1) := by decide +kernel
theorem dX1_shiftOf_3 : decode cX1_shiftOf 3 = .ok (.bipush 8, 2) := by decide +kernel
theorem dX1_shiftOf_5 : decode cX1_shiftOf 5 = .ok (.imul, 1) := by decide +kernel
theorem dX1_shiftOf_6 : decode cX1_shiftOf 6 = .ok (.ireturn, 1) := by decide +kernel
theorem dX1_putSigned_0 : decode cX1_putSigned 0 = .ok (.aload_n 0, 1) := by decide +kernel
theorem dX1_putSigned_1 : decode cX1_putSigned 1 = .ok (.dup, 1) := by decide +kernel
theorem dX1_putSigned_2 : decode cX1_putSigned 2 = .ok (.getfield 31, 3) := by decide +kernel
theorem dX1_putSigned_5 : decode cX1_putSigned 5 = .ok (.iconst 1, 1) := by decide +kernel
theorem dX1_putSigned_6 : decode cX1_putSigned 6 = .ok (.iadd, 1) := by decide +kernel
theorem dX1_putSigned_7 : decode cX1_putSigned 7 = .ok (.putfield 31, 3) := by decide +kernel
theorem dX1_putSigned_10 : decode cX1_putSigned 10 = .ok (.aload_n 0, 1) := by decide +kernel
theorem dX1_putSigned_11 : decode cX1_putSigned 11 = .ok (.getfield 13, 3) := by decide +kernel
theorem dX1_putSigned_14 : decode cX1_putSigned 14 = .ok (.iload_n 1, 1) := by decide +kernel
theorem dX1_putSigned_15 : decode cX1_putSigned 15 = .ok (.iload_n 2, 1) := by decide +kernel
theorem dX1_putSigned_16 : decode cX1_putSigned 16 = .ok (.i2b, 1) := by decide +kernel
theorem dX1_putSigned_17 : decode cX1_putSigned 17 = .ok (.ldc 41, 2) := by decide +kernel
theorem dX1_putSigned_19 : decode cX1_putSigned 19 = .ok (.iand, 1) := by decide +kernel
theorem dX1_putSigned_20 : decode cX1_putSigned 20 = .ok (.iastore, 1) := by decide +kernel
theorem dX1_putSigned_21 : decode cX1_putSigned 21 = .ok (.return_, 1) := by decide +kernel
theorem dX1_putResult_0 : decode cX1_putResult 0 = .ok (.aload_n 0, 1) := by decide +kernel
theorem dX1_putResult_1 : decode cX1_putResult 1 = .ok (.dup, 1) := by decide +kernel
theorem dX1_putResult_2 : decode cX1_putResult 2 = .ok (.getfield 31, 3) := by decide +kernel
theorem dX1_putResult_5 : decode cX1_putResult 5 = .ok (.iconst 1, 1) := by decide +kernel
theorem dX1_putResult_6 : decode cX1_putResult 6 = .ok (.iadd, 1) := by decide +kernel
theorem dX1_putResult_7 : decode cX1_putResult 7 = .ok (.putfield 31, 3) := by decide +kernel
theorem dX1_putResult_10 : decode cX1_putResult 10 = .ok (.aload_n 0, 1) := by decide +kernel
theorem dX1_putResult_11 : decode cX1_putResult 11 = .ok (.getfield 34, 3) := by decide +kernel
theorem dX1_putResult_14 : decode cX1_putResult 14 = .ok (.iconst (-1), 1) := by decide +kernel
theorem dX1_putResult_15 : decode cX1_putResult 15 = .ok (.if_icmp .ne 32, 3) := by decide +kernel
theorem dX1_putResult_18 : decode cX1_putResult 18 = .ok (.aload_n 0, 1) := by decide +kernel
theorem dX1_putResult_19 : decode cX1_putResult 19 = .ok (.getfield 13, 3) := by decide +kernel
theorem dX1_putResult_22 : decode cX1_putResult 22 = .ok (.iload_n 1, 1) := by decide +kernel
theorem dX1_putResult_23 : decode cX1_putResult 23 = .ok (.iload_n 3, 1) := by decide +kernel
theorem dX1_putResult_24 : decode cX1_putResult 24 = .ok (.ifCond .eq 18, 3) := by decide +kernel
theorem dX1_putResult_27 : decode cX1_putResult 27 = .ok (.aload_n 0, 1) := by decide +kernel
theorem dX1_putResult_28 : decode cX1_putResult 28 = .ok (.getfield 13, 3) := by decide +kernel
theorem dX1_putResult_31 : decode cX1_putResult 31 = .ok (.iload_n 1, 1) := by decide +kernel
theorem dX1_putResult_32 : decode cX1_putResult 32 = .ok (.iaload, 1) := by decide +kernel
theorem dX1_putResult_33 : decode cX1_putResult 33 = .ok (.sipush (-256), 3) := by decide +kernel
theorem dX1_putResult_36 : decode cX1_putResult 36 = .ok (.iand, 1) := by decide +kernel
theorem dX1_putResult_37 : decode cX1_putResult 37 = .ok (.iload_n 2, 1) := by decide +kernel
theorem dX1_putResult_38 : decode cX1_putResult 38 = .ok (.ior, 1) := by decide +kernel
theorem dX1_putResult_39 : decode cX1_putResult 39 = .ok (.goto 4, 3) := by decide +kernel
theorem dX1_putResult_42 : decode cX1_putResult 42 = .ok (.iload_n 2, 1) := by decide +kernel
theorem dX1_putResult_43 : decode cX1_putResult 43 = .ok (.iastore, 1) := by decide +kernel
theorem dX1_putResult_44 : decode cX1_putResult 44 = .ok (.goto 67, 3) := by decide +kernel
theorem dX1_putResult_47 : decode cX1_putResult 47 = .ok (.iload_n 3, 1) := by decide +kernel
theorem dX1_putResult_48 : decode cX1_putResult 48 = .ok (.ifCond .eq 51, 3) := by decide +kernel
theorem dX1_putResult_51 : decode cX1_putResult 51 = .ok (.aload_n 0, 1) := by decide +kernel
theorem dX1_putResult_52 : decode cX1_putResult 52 = .ok (.getfield 34, 3) := by decide +kernel
theorem dX1_putResult_55 : decode cX1_putResult 55 = .ok (.invokestatic 152, 3) := by decide +kernel
theorem dX1_putResult_58 : decode cX1_putResult 58 = .ok (.istore 4, 2) := by decide +kernel
theorem dX1_putResult_60 : decode cX1_putResult 60 = .ok (.aload_n 0, 1) := by decide +kernel
theorem dX1_putResult_61 : decode cX1_putResult 61 = .ok (.getfield 9, 3) := by decide +kernel
theorem dX1_putResult_64 : decode cX1_putResult 64 = .ok (.aload_n 0, 1) := by decide +kernel
theorem dX1_putResult_65 : decode cX1_putResult 65 = .ok (.getfield 34, 3) := by decide +kernel
theorem dX1_putResult_68 : decode cX1_putResult 68 = .ok (.iconst 1, 1) := by decide +kernel
theorem dX1_putResult_69 : decode cX1_putResult 69 = .ok (.ishr, 1) := by decide +kernel
theorem dX1_putResult_70 : decode cX1_putResult 70 = .ok (.aload_n 0, 1) := by decide +kernel
theorem dX1_putResult_71 : decode cX1_putResult 71 = .ok (.getfield 9, 3) := by decide +kernel
theorem dX1_putResult_74 : decode cX1_putResult 74 = .ok (.aload_n 0, 1) := by decide +kernel
theorem dX1_putResult_75 : decode cX1_putResult 75 = .ok (.getfield 34, 3) := by decide +kernel
theorem dX1_putResult_78 : decode cX1_putResult 78 = .ok (.iconst 1, 1) := by decide +kernel
theorem dX1_putResult_79 : decode cX1_putResult 79 = .ok (.ishr, 1) := by decide +kernel
theorem dX1_putResult_80 : decode cX1_putResult 80 = .ok (.iaload, 1) := by decide +kernel
theorem dX1_putResult_81 : decode cX1_putResult 81 = .ok (.sipush 255, 3) := by decide +kernel
theorem dX1_putResult_84 : decode cX1_putResult 84 = .ok (.iload 4, 2) := by decide +kernel
theorem dX1_putResult_86 : decode cX1_putResult 86 = .ok (.ishl, 1) := by decide +kernel
theorem dX1_putResult_87 : decode cX1_putResult 87 = .ok (.iconst (-1), 1) := by decide +kernel
theorem dX1_putResult_88 : decode cX1_putResult 88 = .ok (.ixor, 1) := by decide +kernel
theorem dX1_putResult_89 : decode cX1_putResult 89 = .ok (.iand, 1) := by decide +kernel
theorem dX1_putResult_90 : decode cX1_putResult 90 = .ok (.iload_n 2, 1) := by decide +kernel
theorem dX1_putResult_91 : decode cX1_putResult 91 = .ok (.iload 4, 2) := by decide +kernel
theorem dX1_putResult_93 : decode cX1_putResult 93 = .ok (.ishl, 1) := by decide +kernel
theorem dX1_putResult_94 : decode cX1_putResult 94 = .ok (.ior, 1) := by decide +kernel
theorem dX1_putResult_95 : decode cX1_putResult 95 = .ok (.iastore, 1) := by decide +kernel
theorem dX1_putResult_96 : decode cX1_putResult 96 = .ok (.goto 15, 3) := by decide +kernel
theorem dX1_putResult_99 : decode cX1_putResult 99 = .ok (.aload_n 0, 1) := by decide +kernel
theorem dX1_putResult_100 : decode cX1_putResult 100 = .ok (.getfield 9, 3) := by decide +kernel
theorem dX1_putResult_103 : decode cX1_putResult 103 = .ok (.aload_n 0, 1) := by decide +kernel
theorem dX1_putResult_104 : decode cX1_putResult 104 = .ok (.getfield 34, 3) := by decide +kernel
theorem dX1_putResult_107 : decode cX1_putResult 107 = .ok (.iconst 1, 1) := by decide +kernel
theorem dX1_putResult_108 : decode cX1_putResult 108 = .ok (.ishr, 1) := by decide +kernel
theorem dX1_putResult_109 : decode cX1_putResult 109 = .ok (.iload_n 2, 1) := by decide +kernel
theorem dX1_putResult_110 : decode cX1_putResult 110 = .ok (.iastore, 1) := by decide +kernel
theorem dX1_putResult_111 : decode cX1_putResult 111 = .ok (.return_, 1) := by decide +kernel
theorem dX1_isOfOneOperand_0 : decode cX1_isOfOneOperand 0 = .ok (.iload_n 0, 1) := by decide +kernel
theorem dX1_isOfOneOperand_1 : decode cX1_isOfOneOperand 1 = .ok (.ldc 102, 2) := by decide +kernel
theorem dX1_isOfOneOperand_3 : decode cX1_isOfOneOperand 3 = .ok (.iand, 1) := by decide +kernel
theorem dX1_isOfOneOperand_4 : decode cX1_isOfOneOperand 4 = .ok (.bipush 6, 2) := by decide +kernel
theorem dX1_isOfOneOperand_6 : decode cX1_isOfOneOperand 6 = .ok (.ishr, 1) := by decide +kernel
theorem dX1_isOfOneOperand_7 : decode cX1_isOfOneOperand 7 = .ok (.istore_n 1, 1) := by decide +kernel
theorem dX1_isOfOneOperand_8 : decode cX1_isOfOneOperand 8 = .ok (.iload_n 1, 1) := by decide +kernel
theorem dX1_isOfOneOperand_9 : decode cX1_isOfOneOperand 9 = .ok (.bipush 40, 2) := by decide +kernel
theorem dX1_isOfOneOperand_11 : decode cX1_isOfOneOperand 11 = .ok (.if_icmp .lt 9, 3) := by decide +kernel
theorem dX1_isOfOneOperand_14 : decode cX1_isOfOneOperand 14 = .ok (.iload_n 1, 1) := by decide +kernel
theorem dX1_isOfOneOperand_15 : decode cX1_isOfOneOperand 15 = .ok (.bipush 51, 2) := by decide +kernel
theorem dX1_isOfOneOperand_17 : decode cX1_isOfOneOperand 17 = .ok (.if_icmp .le 11, 3) := by decide +kernel
theorem dX1_isOfOneOperand_20 : decode cX1_isOfOneOperand 20 = .ok (.iload_n 0, 1) := by decide +kernel
theorem dX1_isOfOneOperand_21 : decode cX1_isOfOneOperand 21 = .ok (.bipush 6, 2) := by decide +kernel
theorem dX1_isOfOneOperand_23 : decode cX1_isOfOneOperand 23 = .ok (.ishr, 1) := by decide +kernel
theorem dX1_isOfOneOperand_24 : decode cX1_isOfOneOperand 24 = .ok (.iconst 3, 1) := by decide +kernel
theorem dX1_isOfOneOperand_25 : decode cX1_isOfOneOperand 25 = .ok (.if_icmp .ne 7, 3) := by decide +kernel
theorem dX1_isOfOneOperand_28 : decode cX1_isOfOneOperand 28 = .ok (.iconst 1, 1) := by decide +kernel
theorem dX1_isOfOneOperand_29 : decode cX1_isOfOneOperand 29 = .ok (.goto 4, 3) := by decide +kernel
theorem dX1_isOfOneOperand_32 : decode cX1_isOfOneOperand 32 = .ok (.iconst 0, 1) := by decide +kernel
theorem dX1_isOfOneOperand_33 : decode cX1_isOfOneOperand 33 = .ok (.ireturn, 1) := by decide +kernel
theorem dX1_doOneOperand_0 : decode cX1_doOneOperand 0 = .ok (.iload_n 1, 1) := by decide +kernel
theorem dX1_doOneOperand_1 : decode cX1_doOneOperand 1 = .ok (.ldc 103, 2) := by decide +kernel
theorem dX1_doOneOperand_3 : decode cX1_doOneOperand 3 = .ok (.iand, 1) := by decide +kernel
theorem dX1_doOneOperand_4 : decode cX1_doOneOperand 4 = .ok (.ifCond .eq 7, 3) := by decide +kernel
theorem dX1_doOneOperand_7 : decode cX1_doOneOperand 7 = .ok (.iconst 1, 1) := by decide +kernel
theorem dX1_doOneOperand_8 : decode cX1_doOneOperand 8 = .ok (.goto 4, 3) := by decide +kernel
theorem dX1_doOneOperand_11 : decode cX1_doOneOperand 11 = .ok (.iconst 0, 1) := by decide +kernel
theorem dX1_doOneOperand_12 : decode cX1_doOneOperand 12 = .ok (.istore_n 2, 1) := by decide +kernel
theorem dX1_doOneOperand_13 : decode cX1_doOneOperand 13 = .ok (.iload_n 1, 1) := by decide +kernel
theorem dX1_doOneOperand_14 : decode cX1_doOneOperand 14 = .ok (.ldc 102, 2) := by decide +kernel
theorem dX1_doOneOperand_16 : decode cX1_doOneOperand 16 = .ok (.iand, 1) := by decide +kernel
theorem dX1_doOneOperand_17 : decode cX1_doOneOperand 17 = .ok (.bipush 6, 2) := by decide +kernel
theorem dX1_doOneOperand_19 : decode cX1_doOneOperand 19 = .ok (.ishr, 1) := by decide +kernel
theorem dX1_doOneOperand_20 : decode cX1_doOneOperand 20 = .ok (.istore_n 3, 1) := by decide +kernel
theorem dX1_doOneOperand_21 : decode cX1_doOneOperand 21 = .ok (.aload_n 0, 1) := by decide +kernel
theorem dX1_doOneOperand_22 : decode cX1_doOneOperand 22 = .ok (.iload_n 1, 1) := by decide +kernel
theorem dX1_doOneOperand_23 : decode cX1_doOneOperand 23 = .ok (.bipush 63, 2) := by decide +kernel
theorem dX1_doOneOperand_25 : decode cX1_doOneOperand 25 = .ok (.iand, 1) := by decide +kernel
theorem dX1_doOneOperand_26 : decode cX1_doOneOperand 26 = .ok (.iload_n 2, 1) := by decide +kernel
theorem dX1_doOneOperand_27 : decode cX1_doOneOperand 27 = .ok (.invokevirtual 104, 3) := by decide +kernel
theorem dX1_doOneOperand_30 : decode cX1_doOneOperand 30 = .ok (.istore 4, 2) := by decide +kernel
theorem dX1_doOneOperand_32 : decode cX1_doOneOperand 32 = .ok (.iload 4, 2) := by decide +kernel
theorem dX1_doOneOperand_34 : decode cX1_doOneOperand 34 = .ok (.iconst (-1), 1) := by decide +kernel
theorem dX1_doOneOperand_35 : decode cX1_doOneOperand 35 = .ok (.if_icmp .ne 4, 3) := by decide +kernel
theorem dX1_doOneOperand_38 : decode cX1_doOneOperand 38 = .ok (.return_, 1) := by decide +kernel
theorem dX1_doOneOperand_39 : decode cX1_doOneOperand 39 = .ok (.aload_n 0, 1) := by decide +kernel
theorem dX1_doOneOperand_40 : decode cX1_doOneOperand 40 = .ok (.getfield 19, 3) := by decide +kernel
theorem dX1_doOneOperand_43 : decode cX1_doOneOperand 43 = .ok (.iload_n 2, 1) := by decide +kernel
theorem dX1_doOneOperand_44 : decode cX1_doOneOperand 44 = .ok (.invokevirtual 108, 3) := by decide +kernel
theorem dX1_doOneOperand_47 : decode cX1_doOneOperand 47 = .ok (.iload_n 3, 1) := by decide +kernel
theorem dX1_doOneOperand_48 : decode cX1_doOneOperand 48 = .ok (.bipush 48, 2) := by decide +kernel
theorem dX1_doOneOperand_50 : decode cX1_doOneOperand 50 = .ok (.if_icmp .lt 16, 3) := by decide +kernel
theorem dX1_doOneOperand_53 : decode cX1_doOneOperand 53 = .ok (.aload_n 0, 1) := by decide +kernel
theorem dX1_doOneOperand_54 : decode cX1_doOneOperand 54 = .ok (.getfield 19, 3) := by decide +kernel
theorem dX1_doOneOperand_57 : decode cX1_doOneOperand 57 = .ok (.iload_n 3, 1) := by decide +kernel
theorem dX1_doOneOperand_58 : decode cX1_doOneOperand 58 = .ok (.iload 4, 2) := by decide +kernel
theorem dX1_doOneOperand_60 : decode cX1_doOneOperand 60 = .ok (.invokevirtual 124, 3) := by decide +kernel
theorem dX1_doOneOperand_63 : decode cX1_doOneOperand 63 = .ok (.goto 13, 3) := by decide +kernel
theorem dX1_doOneOperand_66 : decode cX1_doOneOperand 66 = .ok (.aload_n 0, 1) := by decide +kernel
theorem dX1_doOneOperand_67 : decode cX1_doOneOperand 67 = .ok (.getfield 19, 3) := by decide +kernel
theorem dX1_doOneOperand_70 : decode cX1_doOneOperand 70 = .ok (.iload_n 3, 1) := by decide +kernel
theorem dX1_doOneOperand_71 : decode cX1_doOneOperand 71 = .ok (.iload 4, 2) := by decide +kernel
theorem dX1_doOneOperand_73 : decode cX1_doOneOperand 73 = .ok (.invokevirtual 127, 3) := by decide +kernel
theorem dX1_doOneOperand_76 : decode cX1_doOneOperand 76 = .ok (.istore 5, 2) := by decide +kernel
theorem dX1_doOneOperand_78 : decode cX1_doOneOperand 78 = .ok (.aload_n 0, 1) := by decide +kernel
theorem dX1_doOneOperand_79 : decode cX1_doOneOperand 79 = .ok (.dup, 1) := by decide +kernel
theorem dX1_doOneOperand_80 : decode cX1_doOneOperand 80 = .ok (.getfield 31, 3) := by decide +kernel
theorem dX1_doOneOperand_83 : decode cX1_doOneOperand 83 = .ok (.iconst 1, 1) := by decide +kernel
theorem dX1_doOneOperand_84 : decode cX1_doOneOperand 84 = .ok (.iadd, 1) := by decide +kernel
theorem dX1_doOneOperand_85 : decode cX1_doOneOperand 85 = .ok (.putfield 31, 3) := by decide +kernel
theorem dX1_doOneOperand_88 : decode cX1_doOneOperand 88 = .ok (.iload_n 3, 1) := by decide +kernel
theorem dX1_doOneOperand_89 : decode cX1_doOneOperand 89 = .ok (.bipush 47, 2) := by decide +kernel
theorem dX1_doOneOperand_91 : decode cX1_doOneOperand 91 = .ok (.if_icmp .eq 14, 3) := by decide +kernel
theorem dX1_doOneOperand_94 : decode cX1_doOneOperand 94 = .ok (.aload_n 0, 1) := by decide +kernel
theorem dX1_doOneOperand_95 : decode cX1_doOneOperand 95 = .ok (.iload_n 1, 1) := by decide +kernel
theorem dX1_doOneOperand_96 : decode cX1_doOneOperand 96 = .ok (.bipush 7, 2) := by decide +kernel
theorem dX1_doOneOperand_98 : decode cX1_doOneOperand 98 = .ok (.iand, 1) := by decide +kernel
theorem dX1_doOneOperand_99 : decode cX1_doOneOperand 99 = .ok (.iload 5, 2) := by decide +kernel
theorem dX1_doOneOperand_101 : decode cX1_doOneOperand 101 = .ok (.iload_n 2, 1) := by decide +kernel
theorem dX1_doOneOperand_102 : decode cX1_doOneOperand 102 = .ok (.invokevirtual 120, 3) := by decide +kernel
theorem dX1_doOneOperand_105 : decode cX1_doOneOperand 105 = .ok (.return_, 1) := by decide +kernel
theorem dX1_isBranch_0 : decode cX1_isBranch 0 = .ok (.iload_n 0, 1) := by decide +kernel
theorem dX1_isBranch_1 : decode cX1_isBranch 1 = .ok (.bipush 8, 2) := by decide +kernel
theorem dX1_isBranch_3 : decode cX1_isBranch 3 = .ok (.ishr, 1) := by decide +kernel
theorem dX1_isBranch_4 : decode cX1_isBranch 4 = .ok (.istore_n 1, 1) := by decide +kernel
theorem dX1_isBranch_5 : decode cX1_isBranch 5 = .ok (.iload_n 1, 1) := by decide +kernel
theorem dX1_isBranch_6 : decode cX1_isBranch 6 = .ok (.iconst 1, 1) := by decide +kernel
theorem dX1_isBranch_7 : decode cX1_isBranch 7 = .ok (.if_icmp .lt 9, 3) := by decide +kernel
theorem dX1_isBranch_10 : decode cX1_isBranch 10 = .ok (.iload_n 1, 1) := by decide +kernel
theorem dX1_isBranch_11 : decode cX1_isBranch 11 = .ok (.bipush 7, 2) := by decide +kernel
theorem dX1_isBranch_13 : decode cX1_isBranch 13 = .ok (.if_icmp .le 17, 3) := by decide +kernel
theorem dX1_isBranch_16 : decode cX1_isBranch 16 = .ok (.iload_n 1, 1) := by decide +kernel
theorem dX1_isBranch_17 : decode cX1_isBranch 17 = .ok (.sipush 128, 3) := by decide +kernel
theorem dX1_isBranch_20 : decode cX1_isBranch 20 = .ok (.if_icmp .lt 14, 3) := by decide +kernel
theorem dX1_isBranch_23 : decode cX1_isBranch 23 = .ok (.iload_n 1, 1) := by decide +kernel
theorem dX1_isBranch_24 : decode cX1_isBranch 24 = .ok (.sipush 135, 3) := by decide +kernel
theorem dX1_isBranch_27 : decode cX1_isBranch 27 = .ok (.if_icmp .gt 7, 3) := by decide +kernel
theorem dX1_isBranch_30 : decode cX1_isBranch 30 = .ok (.iconst 1, 1) := by decide +kernel
theorem dX1_isBranch_31 : decode cX1_isBranch 31 = .ok (.goto 4, 3) := by decide +kernel
theorem dX1_isBranch_34 : decode cX1_isBranch 34 = .ok (.iconst 0, 1) := by decide +kernel
theorem dX1_isBranch_35 : decode cX1_isBranch 35 = .ok (.ireturn, 1) := by decide +kernel
theorem dX1_doBranch_0 : decode cX1_doBranch 0 = .ok (.aload_n 0, 1) := by decide +kernel
theorem dX1_doBranch_1 : decode cX1_doBranch 1 = .ok (.dup, 1) := by decide +kernel
theorem dX1_doBranch_2 : decode cX1_doBranch 2 = .ok (.getfield 31, 3) := by decide +kernel
theorem dX1_doBranch_5 : decode cX1_doBranch 5 = .ok (.iconst 1, 1) := by decide +kernel
theorem dX1_doBranch_6 : decode cX1_doBranch 6 = .ok (.iadd, 1) := by decide +kernel
theorem dX1_doBranch_7 : decode cX1_doBranch 7 = .ok (.putfield 31, 3) := by decide +kernel
theorem dX1_doBranch_10 : decode cX1_doBranch 10 = .ok (.aload_n 0, 1) := by decide +kernel
theorem dX1_doBranch_11 : decode cX1_doBranch 11 = .ok (.getfield 19, 3) := by decide +kernel
theorem dX1_doBranch_14 : decode cX1_doBranch 14 = .ok (.iload_n 1, 1) := by decide +kernel
theorem dX1_doBranch_15 : decode cX1_doBranch 15 = .ok (.bipush 8, 2) := by decide +kernel
theorem dX1_doBranch_17 : decode cX1_doBranch 17 = .ok (.ishr, 1) := by decide +kernel
theorem dX1_doBranch_18 : decode cX1_doBranch 18 = .ok (.invokevirtual 130, 3) := by decide +kernel
theorem dX1_doBranch_21 : decode cX1_doBranch 21 = .ok (.ifCond .eq 35, 3) := by decide +kernel
theorem dX1_doBranch_24 : decode cX1_doBranch 24 = .ok (.aload_n 0, 1) := by decide +kernel
theorem dX1_doBranch_25 : decode cX1_doBranch 25 = .ok (.dup, 1) := by decide +kernel
theorem dX1_doBranch_26 : decode cX1_doBranch 26 = .ok (.getfield 31, 3) := by decide +kernel
theorem dX1_doBranch_29 : decode cX1_doBranch 29 = .ok (.iconst 1, 1) := by decide +kernel
theorem dX1_doBranch_30 : decode cX1_doBranch 30 = .ok (.iadd, 1) := by decide +kernel
theorem dX1_doBranch_31 : decode cX1_doBranch 31 = .ok (.putfield 31, 3) := by decide +kernel
theorem dX1_doBranch_34 : decode cX1_doBranch 34 = .ok (.aload_n 0, 1) := by decide +kernel
theorem dX1_doBranch_35 : decode cX1_doBranch 35 = .ok (.getfield 13, 3) := by decide +kernel
theorem dX1_doBranch_38 : decode cX1_doBranch 38 = .ok (.bipush 7, 2) := by decide +kernel
theorem dX1_doBranch_40 : decode cX1_doBranch 40 = .ok (.aload_n 0, 1) := by decide +kernel
theorem dX1_doBranch_41 : decode cX1_doBranch 41 = .ok (.getfield 13, 3) := by decide +kernel
theorem dX1_doBranch_44 : decode cX1_doBranch 44 = .ok (.bipush 7, 2) := by decide +kernel
theorem dX1_doBranch_46 : decode cX1_doBranch 46 = .ok (.iaload, 1) := by decide +kernel
theorem dX1_doBranch_47 : decode cX1_doBranch 47 = .ok (.iconst 2, 1) := by decide +kernel
theorem dX1_doBranch_48 : decode cX1_doBranch 48 = .ok (.iload_n 1, 1) := by decide +kernel
theorem dX1_doBranch_49 : decode cX1_doBranch 49 = .ok (.i2b, 1) := by decide +kernel
theorem dX1_doBranch_50 : decode cX1_doBranch 50 = .ok (.imul, 1) := by decide +kernel
theorem dX1_doBranch_51 : decode cX1_doBranch 51 = .ok (.iadd, 1) := by decide +kernel
theorem dX1_doBranch_52 : decode cX1_doBranch 52 = .ok (.ldc 41, 2) := by decide +kernel
theorem dX1_doBranch_54 : decode cX1_doBranch 54 = .ok (.iand, 1) := by decide +kernel
theorem dX1_doBranch_55 : decode cX1_doBranch 55 = .ok (.iastore, 1) := by decide +kernel
theorem dX1_doBranch_56 : decode cX1_doBranch 56 = .ok (.return_, 1) := by decide +kernel
theorem dX1_doSubtractAndBranch_0 : decode cX1_doSubtractAndBranch 0 = .ok (.aload_n 0, 1) := by decide +kernel
theorem dX1_doSubtractAndBranch_1 : decode cX1_doSubtractAndBranch 1 = .ok (.dup, 1) := by decide +kernel
theorem dX1_doSubtractAndBranch_2 : decode cX1_doSubtractAndBranch 2 = .ok (.getfield 31, 3) := by decide +kernel
theorem dX1_doSubtractAndBranch_5 : decode cX1_doSubtractAndBranch 5 = .ok (.iconst 2, 1) := by decide +kernel
theorem dX1_doSubtractAndBranch_6 : decode cX1_doSubtractAndBranch 6 = .ok (.iadd, 1) := by decide +kernel
theorem dX1_doSubtractAndBranch_7 : decode cX1_doSubtractAndBranch 7 = .ok (.putfield 31, 3) := by decide +kernel
theorem dX1_doSubtractAndBranch_10 : decode cX1_doSubtractAndBranch 10 = .ok (.aload_n 0, 1) := by decide +kernel
theorem dX1_doSubtractAndBranch_11 : decode cX1_doSubtractAndBranch 11 = .ok (.iload_n 1, 1) := by decide +kernel
theorem dX1_doSubtractAndBranch_12 : decode cX1_doSubtractAndBranch 12 = .ok (.bipush 6, 2) := by decide +kernel
theorem dX1_doSubtractAndBranch_14 : decode cX1_doSubtractAndBranch 14 = .ok (.ishr, 1) := by decide +kernel
theorem dX1_doSubtractAndBranch_15 : decode cX1_doSubtractAndBranch 15 = .ok (.bipush 7, 2) := by decide +kernel
theorem dX1_doSubtractAndBranch_17 : decode cX1_doSubtractAndBranch 17 = .ok (.iand, 1) := by decide +kernel
theorem dX1_doSubtractAndBranch_18 : decode cX1_doSubtractAndBranch 18 = .ok (.iconst 1, 1) := by decide +kernel
theorem dX1_doSubtractAndBranch_19 : decode cX1_doSubtractAndBranch 19 = .ok (.invokevirtual 133, 3) := by decide +kernel
theorem dX1_doSubtractAndBranch_22 : decode cX1_doSubtractAndBranch 22 = .ok (.ifCond .eq 26, 3) := by decide +kernel
theorem dX1_doSubtractAndBranch_25 : decode cX1_doSubtractAndBranch 25 = .ok (.aload_n 0, 1) := by decide +kernel
theorem dX1_doSubtractAndBranch_26 : decode cX1_doSubtractAndBranch 26 = .ok (.dup, 1) := by decide +kernel
theorem dX1_doSubtractAndBranch_27 : decode cX1_doSubtractAndBranch 27 = .ok (.getfield 31, 3) := by decide +kernel
theorem dX1_doSubtractAndBranch_30 : decode cX1_doSubtractAndBranch 30 = .ok (.iconst 1, 1) := by decide +kernel
theorem dX1_doSubtractAndBranch_31 : decode cX1_doSubtractAndBranch 31 = .ok (.iadd, 1) := by decide +kernel
theorem dX1_doSubtractAndBranch_32 : decode cX1_doSubtractAndBranch 32 = .ok (.putfield 31, 3) := by decide +kernel
theorem dX1_doSubtractAndBranch_35 : decode cX1_doSubtractAndBranch 35 = .ok (.aload_n 0, 1) := by decide +kernel
theorem dX1_doSubtractAndBranch_36 : decode cX1_doSubtractAndBranch 36 = .ok (.bipush 7, 2) := by decide +kernel
theorem dX1_doSubtractAndBranch_38 : decode cX1_doSubtractAndBranch 38 = .ok (.iconst 2, 1) := by decide +kernel
theorem dX1_doSubtractAndBranch_39 : decode cX1_doSubtractAndBranch 39 = .ok (.iload_n 1, 1) := by decide +kernel
theorem dX1_doSubtractAndBranch_40 : decode cX1_doSubtractAndBranch 40 = .ok (.bipush 63, 2) := by decide +kernel
theorem dX1_doSubtractAndBranch_42 : decode cX1_doSubtractAndBranch 42 = .ok (.iand, 1) := by decide +kernel
theorem dX1_doSubtractAndBranch_43 : decode cX1_doSubtractAndBranch 43 = .ok (.imul, 1) := by decide +kernel
theorem dX1_doSubtractAndBranch_44 : decode cX1_doSubtractAndBranch 44 = .ok (.invokevirtual 133, 3) := by decide +kernel
theorem dX1_doSubtractAndBranch_47 : decode cX1_doSubtractAndBranch 47 = .ok (.pop, 1) := by decide +kernel
theorem dX1_doSubtractAndBranch_48 : decode cX1_doSubtractAndBranch 48 = .ok (.return_, 1) := by decide +kernel
theorem dX1_doJump_0 : decode cX1_doJump 0 = .ok (.aload_n 0, 1) := by decide +kernel
theorem dX1_doJump_1 : decode cX1_doJump 1 = .ok (.iload_n 1, 1) := by decide +kernel
theorem dX1_doJump_2 : decode cX1_doJump 2 = .ok (.bipush 63, 2) := by decide +kernel
theorem dX1_doJump_4 : decode cX1_doJump 4 = .ok (.iand, 1) := by decide +kernel
theorem dX1_doJump_5 : decode cX1_doJump 5 = .ok (.invokevirtual 136, 3) := by decide +kernel
theorem dX1_doJump_8 : decode cX1_doJump 8 = .ok (.istore_n 2, 1) := by decide +kernel
theorem dX1_doJump_9 : decode cX1_doJump 9 = .ok (.iload_n 2, 1) := by decide +kernel
theorem dX1_doJump_10 : decode cX1_doJump 10 = .ok (.iconst (-1), 1) := by decide +kernel
theorem dX1_doJump_11 : decode cX1_doJump 11 = .ok (.if_icmp .eq 21, 3) := by decide +kernel
theorem dX1_doJump_14 : decode cX1_doJump 14 = .ok (.aload_n 0, 1) := by decide +kernel
theorem dX1_doJump_15 : decode cX1_doJump 15 = .ok (.getfield 13, 3) := by decide +kernel
theorem dX1_doJump_18 : decode cX1_doJump 18 = .ok (.bipush 7, 2) := by decide +kernel
theorem dX1_doJump_20 : decode cX1_doJump 20 = .ok (.iload_n 2, 1) := by decide +kernel
theorem dX1_doJump_21 : decode cX1_doJump 21 = .ok (.iastore, 1) := by decide +kernel
theorem dX1_doJump_22 : decode cX1_doJump 22 = .ok (.aload_n 0, 1) := by decide +kernel
theorem dX1_doJump_23 : decode cX1_doJump 23 = .ok (.dup, 1) := by decide +kernel
theorem dX1_doJump_24 : decode cX1_doJump 24 = .ok (.getfield 31, 3) := by decide +kernel
theorem dX1_doJump_27 : decode cX1_doJump 27 = .ok (.iconst 1, 1) := by decide +kernel
theorem dX1_doJump_28 : decode cX1_doJump 28 = .ok (.iadd, 1) := by decide +kernel
theorem dX1_doJump_29 : decode cX1_doJump 29 = .ok (.putfield 31, 3) := by decide +kernel
theorem dX1_doJump_32 : decode cX1_doJump 32 = .ok (.return_, 1) := by decide +kernel
theorem dX1_findTarget_0 : decode cX1_findTarget 0 = .ok (.iload_n 1, 1) := by decide +kernel
theorem dX1_findTarget_1 : decode cX1_findTarget 1 = .ok (.iconst 3, 1) := by decide +kernel
theorem dX1_findTarget_2 : decode cX1_findTarget 2 = .ok (.ishr, 1) := by decide +kernel
theorem dX1_findTarget_3 : decode cX1_findTarget 3 = .ok (.istore_n 2, 1) := by decide +kernel
theorem dX1_findTarget_4 : decode cX1_findTarget 4 = .ok (.iload_n 2, 1) := by decide +kernel
theorem dX1_findTarget_5 : decode cX1_findTarget 5 = .ok (.ifCond .ne 10, 3) := by decide +kernel
theorem dX1_findTarget_8 : decode cX1_findTarget 8 = .ok (.aload_n 0, 1) := by decide +kernel
theorem dX1_findTarget_9 : decode cX1_findTarget 9 = .ok (.iconst 2, 1) := by decide +kernel
theorem dX1_findTarget_10 : decode cX1_findTarget 10 = .ok (.putfield 23, 3) := by decide +kernel
theorem dX1_findTarget_13 : decode cX1_findTarget 13 = .ok (.iconst (-1), 1) := by decide +kernel
theorem dX1_findTarget_14 : decode cX1_findTarget 14 = .ok (.ireturn, 1) := by decide +kernel
theorem dX1_findTarget_15 : decode cX1_findTarget 15 = .ok (.aload_n 0, 1) := by decide +kernel
theorem dX1_findTarget_16 : decode cX1_findTarget 16 = .ok (.dup, 1) := by decide +kernel
theorem dX1_findTarget_17 : decode cX1_findTarget 17 = .ok (.getfield 31, 3) := by decide +kernel
theorem dX1_findTarget_20 : decode cX1_findTarget 20 = .ok (.getstatic 143, 3) := by decide +kernel
theorem dX1_findTarget_23 : decode cX1_findTarget 23 = .ok (.iload_n 2, 1) := by decide +kernel
theorem dX1_findTarget_24 : decode cX1_findTarget 24 = .ok (.iaload, 1) := by decide +kernel
theorem dX1_findTarget_25 : decode cX1_findTarget 25 = .ok (.iconst 1, 1) := by decide +kernel
theorem dX1_findTarget_26 : decode cX1_findTarget 26 = .ok (.isub, 1) := by decide +kernel
