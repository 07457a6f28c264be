theorem dX12_valueAt_26 : decode cX12_valueAt 26 = .ok (.i2l, 1) := by decide +kernel
theorem dX12_valueAt_27 : decode cX12_valueAt 27 = .ok (.lsub, 1) := by decide +kernel
theorem dX12_valueAt_28 : decode cX12_valueAt 28 = .ok (.lload 6, 2) := by decide +kernel
theorem dX12_valueAt_30 : decode cX12_valueAt 30 = .ok (.lmul, 1) := by decide +kernel
theorem dX12_valueAt_31 : decode cX12_valueAt 31 = .ok (.iload 10, 2) := by decide +kernel
theorem dX12_valueAt_33 : decode cX12_valueAt 33 = .ok (.ifCond .le 21, 3) := by decide +kernel
theorem dX12_valueAt_36 : decode cX12_valueAt 36 = .ok (.aload_n 0, 1) := by decide +kernel
theorem dX12_valueAt_37 : decode cX12_valueAt 37 = .ok (.iload_n 1, 1) := by decide +kernel
theorem dX12_valueAt_38 : decode cX12_valueAt 38 = .ok (.iload_n 2, 1) := by decide +kernel
theorem dX12_valueAt_39 : decode cX12_valueAt 39 = .ok (.iload 10, 2) := by decide +kernel
theorem dX12_valueAt_41 : decode cX12_valueAt 41 = .ok (.iadd, 1) := by decide +kernel
theorem dX12_valueAt_42 : decode cX12_valueAt 42 = .ok (.iconst 1, 1) := by decide +kernel
theorem dX12_valueAt_43 : decode cX12_valueAt 43 = .ok (.isub, 1) := by decide +kernel
theorem dX12_valueAt_44 : decode cX12_valueAt 44 = .ok (.invokevirtual 260, 3) := by decide +kernel
theorem dX12_valueAt_47 : decode cX12_valueAt 47 = .ok (.i2l, 1) := by decide +kernel
theorem dX12_valueAt_48 : decode cX12_valueAt 48 = .ok (.lload 8, 2) := by decide +kernel
theorem dX12_valueAt_50 : decode cX12_valueAt 50 = .ok (.lmul, 1) := by decide +kernel
theorem dX12_valueAt_51 : decode cX12_valueAt 51 = .ok (.goto 4, 3) := by decide +kernel
theorem dX12_valueAt_54 : decode cX12_valueAt 54 = .ok (.lconst 0, 1) := by decide +kernel
theorem dX12_valueAt_55 : decode cX12_valueAt 55 = .ok (.lsub, 1) := by decide +kernel
theorem dX12_valueAt_56 : decode cX12_valueAt 56 = .ok (.lstore 11, 2) := by decide +kernel
theorem dX12_valueAt_58 : decode cX12_valueAt 58 = .ok (.lload 6, 2) := by decide +kernel
theorem dX12_valueAt_60 : decode cX12_valueAt 60 = .ok (.lstore 8, 2) := by decide +kernel
theorem dX12_valueAt_62 : decode cX12_valueAt 62 = .ok (.lload 11, 2) := by decide +kernel
theorem dX12_valueAt_64 : decode cX12_valueAt 64 = .ok (.lstore 6, 2) := by decide +kernel
theorem dX12_valueAt_66 : decode cX12_valueAt 66 = .ok (.iinc 10 1, 3) := by decide +kernel
theorem dX12_valueAt_69 : decode cX12_valueAt 69 = .ok (.goto (-60), 3) := by decide +kernel
theorem dX12_valueAt_72 : decode cX12_valueAt 72 = .ok (.lload 6, 2) := by decide +kernel
theorem dX12_valueAt_74 : decode cX12_valueAt 74 = .ok (.lreturn, 1) := by decide +kernel
theorem dX12_value_0 : decode cX12_value 0 = .ok (.iload_n 1, 1) := by decide +kernel
theorem dX12_value_1 : decode cX12_value 1 = .ok (.invokestatic 253, 3) := by decide +kernel
theorem dX12_value_4 : decode cX12_value 4 = .ok (.ifCond .eq 37, 3) := by decide +kernel
theorem dX12_value_7 : decode cX12_value 7 = .ok (.aload_n 0, 1) := by decide +kernel
theorem dX12_value_8 : decode cX12_value 8 = .ok (.getfield 48, 3) := by decide +kernel
theorem dX12_value_11 : decode cX12_value 11 = .ok (.iload_n 1, 1) := by decide +kernel
theorem dX12_value_12 : decode cX12_value 12 = .ok (.iaload, 1) := by decide +kernel
theorem dX12_value_13 : decode cX12_value 13 = .ok (.ifCond .eq 28, 3) := by decide +kernel
theorem dX12_value_16 : decode cX12_value 16 = .ok (.iload_n 2, 1) := by decide +kernel
theorem dX12_value_17 : decode cX12_value 17 = .ok (.iconst 0, 1) := by decide +kernel
theorem dX12_value_18 : decode cX12_value 18 = .ok (.aload_n 0, 1) := by decide +kernel
theorem dX12_value_19 : decode cX12_value 19 = .ok (.getfield 48, 3) := by decide +kernel
theorem dX12_value_22 : decode cX12_value 22 = .ok (.iload_n 1, 1) := by decide +kernel
theorem dX12_value_23 : decode cX12_value 23 = .ok (.iaload, 1) := by decide +kernel
theorem dX12_value_24 : decode cX12_value 24 = .ok (.invokestatic 134, 3) := by decide +kernel
theorem dX12_value_27 : decode cX12_value 27 = .ok (.ifCond .eq 14, 3) := by decide +kernel
theorem dX12_value_30 : decode cX12_value 30 = .ok (.iload_n 3, 1) := by decide +kernel
theorem dX12_value_31 : decode cX12_value 31 = .ok (.bipush (-20), 2) := by decide +kernel
theorem dX12_value_33 : decode cX12_value 33 = .ok (.bipush 20, 2) := by decide +kernel
theorem dX12_value_35 : decode cX12_value 35 = .ok (.invokestatic 134, 3) := by decide +kernel
theorem dX12_value_38 : decode cX12_value 38 = .ok (.ifCond .ne 7, 3) := by decide +kernel
theorem dX12_value_41 : decode cX12_value 41 = .ok (.ldc2_w 156, 3) := by decide +kernel
theorem dX12_value_44 : decode cX12_value 44 = .ok (.lreturn, 1) := by decide +kernel
theorem dX12_value_45 : decode cX12_value 45 = .ok (.aload_n 0, 1) := by decide +kernel
theorem dX12_value_46 : decode cX12_value 46 = .ok (.iload_n 1, 1) := by decide +kernel
theorem dX12_value_47 : decode cX12_value 47 = .ok (.iconst 0, 1) := by decide +kernel
theorem dX12_value_48 : decode cX12_value 48 = .ok (.iload_n 2, 1) := by decide +kernel
theorem dX12_value_49 : decode cX12_value 49 = .ok (.iload_n 3, 1) := by decide +kernel
theorem dX12_value_50 : decode cX12_value 50 = .ok (.i2l, 1) := by decide +kernel
theorem dX12_value_51 : decode cX12_value 51 = .ok (.invokevirtual 279, 3) := by decide +kernel
theorem dX12_value_54 : decode cX12_value 54 = .ok (.lreturn, 1) := by decide +kernel
theorem dX12_belowOf_0 : decode cX12_belowOf 0 = .ok (.lconst 1, 1) := by decide +kernel
theorem dX12_belowOf_1 : decode cX12_belowOf 1 = .ok (.lstore 6, 2) := by decide +kernel
theorem dX12_belowOf_3 : decode cX12_belowOf 3 = .ok (.lconst 0, 1) := by decide +kernel
theorem dX12_belowOf_4 : decode cX12_belowOf 4 = .ok (.lstore 8, 2) := by decide +kernel
theorem dX12_belowOf_6 : decode cX12_belowOf 6 = .ok (.iconst 1, 1) := by decide +kernel
theorem dX12_belowOf_7 : decode cX12_belowOf 7 = .ok (.istore 10, 2) := by decide +kernel
theorem dX12_belowOf_9 : decode cX12_belowOf 9 = .ok (.iconst 0, 1) := by decide +kernel
theorem dX12_belowOf_10 : decode cX12_belowOf 10 = .ok (.istore 11, 2) := by decide +kernel
theorem dX12_belowOf_12 : decode cX12_belowOf 12 = .ok (.iconst 0, 1) := by decide +kernel
theorem dX12_belowOf_13 : decode cX12_belowOf 13 = .ok (.istore 12, 2) := by decide +kernel
theorem dX12_belowOf_15 : decode cX12_belowOf 15 = .ok (.iload 12, 2) := by decide +kernel
theorem dX12_belowOf_17 : decode cX12_belowOf 17 = .ok (.iload_n 3, 1) := by decide +kernel
theorem dX12_belowOf_18 : decode cX12_belowOf 18 = .ok (.if_icmp .ge 128, 3) := by decide +kernel
theorem dX12_belowOf_21 : decode cX12_belowOf 21 = .ok (.iload 4, 2) := by decide +kernel
theorem dX12_belowOf_23 : decode cX12_belowOf 23 = .ok (.i2l, 1) := by decide +kernel
theorem dX12_belowOf_24 : decode cX12_belowOf 24 = .ok (.aload_n 0, 1) := by decide +kernel
theorem dX12_belowOf_25 : decode cX12_belowOf 25 = .ok (.iload_n 1, 1) := by decide +kernel
theorem dX12_belowOf_26 : decode cX12_belowOf 26 = .ok (.iload_n 2, 1) := by decide +kernel
theorem dX12_belowOf_27 : decode cX12_belowOf 27 = .ok (.iload 12, 2) := by decide +kernel
theorem dX12_belowOf_29 : decode cX12_belowOf 29 = .ok (.iadd, 1) := by decide +kernel
theorem dX12_belowOf_30 : decode cX12_belowOf 30 = .ok (.invokevirtual 256, 3) := by decide +kernel
theorem dX12_belowOf_33 : decode cX12_belowOf 33 = .ok (.i2l, 1) := by decide +kernel
theorem dX12_belowOf_34 : decode cX12_belowOf 34 = .ok (.iload 5, 2) := by decide +kernel
theorem dX12_belowOf_36 : decode cX12_belowOf 36 = .ok (.i2l, 1) := by decide +kernel
theorem dX12_belowOf_37 : decode cX12_belowOf 37 = .ok (.lmul, 1) := by decide +kernel
theorem dX12_belowOf_38 : decode cX12_belowOf 38 = .ok (.lsub, 1) := by decide +kernel
theorem dX12_belowOf_39 : decode cX12_belowOf 39 = .ok (.lload 6, 2) := by decide +kernel
theorem dX12_belowOf_41 : decode cX12_belowOf 41 = .ok (.lmul, 1) := by decide +kernel
theorem dX12_belowOf_42 : decode cX12_belowOf 42 = .ok (.iload 12, 2) := by decide +kernel
theorem dX12_belowOf_44 : decode cX12_belowOf 44 = .ok (.ifCond .le 29, 3) := by decide +kernel
theorem dX12_belowOf_47 : decode cX12_belowOf 47 = .ok (.aload_n 0, 1) := by decide +kernel
theorem dX12_belowOf_48 : decode cX12_belowOf 48 = .ok (.iload_n 1, 1) := by decide +kernel
theorem dX12_belowOf_49 : decode cX12_belowOf 49 = .ok (.iload_n 2, 1) := by decide +kernel
theorem dX12_belowOf_50 : decode cX12_belowOf 50 = .ok (.iload 12, 2) := by decide +kernel
theorem dX12_belowOf_52 : decode cX12_belowOf 52 = .ok (.iadd, 1) := by decide +kernel
theorem dX12_belowOf_53 : decode cX12_belowOf 53 = .ok (.iconst 1, 1) := by decide +kernel
theorem dX12_belowOf_54 : decode cX12_belowOf 54 = .ok (.isub, 1) := by decide +kernel
theorem dX12_belowOf_55 : decode cX12_belowOf 55 = .ok (.invokevirtual 260, 3) := by decide +kernel
theorem dX12_belowOf_58 : decode cX12_belowOf 58 = .ok (.i2l, 1) := by decide +kernel
theorem dX12_belowOf_59 : decode cX12_belowOf 59 = .ok (.iload 5, 2) := by decide +kernel
theorem dX12_belowOf_61 : decode cX12_belowOf 61 = .ok (.i2l, 1) := by decide +kernel
theorem dX12_belowOf_62 : decode cX12_belowOf 62 = .ok (.lmul, 1) := by decide +kernel
theorem dX12_belowOf_63 : decode cX12_belowOf 63 = .ok (.iload 5, 2) := by decide +kernel
theorem dX12_belowOf_65 : decode cX12_belowOf 65 = .ok (.i2l, 1) := by decide +kernel
theorem dX12_belowOf_66 : decode cX12_belowOf 66 = .ok (.lmul, 1) := by decide +kernel
theorem dX12_belowOf_67 : decode cX12_belowOf 67 = .ok (.lload 8, 2) := by decide +kernel
theorem dX12_belowOf_69 : decode cX12_belowOf 69 = .ok (.lmul, 1) := by decide +kernel
theorem dX12_belowOf_70 : decode cX12_belowOf 70 = .ok (.goto 4, 3) := by decide +kernel
theorem dX12_belowOf_73 : decode cX12_belowOf 73 = .ok (.lconst 0, 1) := by decide +kernel
theorem dX12_belowOf_74 : decode cX12_belowOf 74 = .ok (.lsub, 1) := by decide +kernel
theorem dX12_belowOf_75 : decode cX12_belowOf 75 = .ok (.lstore 13, 2) := by decide +kernel
theorem dX12_belowOf_77 : decode cX12_belowOf 77 = .ok (.lload 13, 2) := by decide +kernel
theorem dX12_belowOf_79 : decode cX12_belowOf 79 = .ok (.lconst 0, 1) := by decide +kernel
theorem dX12_belowOf_80 : decode cX12_belowOf 80 = .ok (.lcmp, 1) := by decide +kernel
theorem dX12_belowOf_81 : decode cX12_belowOf 81 = .ok (.ifCond .ne 16, 3) := by decide +kernel
theorem dX12_belowOf_84 : decode cX12_belowOf 84 = .ok (.iload 10, 2) := by decide +kernel
theorem dX12_belowOf_86 : decode cX12_belowOf 86 = .ok (.ifCond .ne 7, 3) := by decide +kernel
theorem dX12_belowOf_89 : decode cX12_belowOf 89 = .ok (.iconst 1, 1) := by decide +kernel
theorem dX12_belowOf_90 : decode cX12_belowOf 90 = .ok (.goto 19, 3) := by decide +kernel
theorem dX12_belowOf_93 : decode cX12_belowOf 93 = .ok (.iconst 0, 1) := by decide +kernel
theorem dX12_belowOf_94 : decode cX12_belowOf 94 = .ok (.goto 15, 3) := by decide +kernel
theorem dX12_belowOf_97 : decode cX12_belowOf 97 = .ok (.lload 13, 2) := by decide +kernel
theorem dX12_belowOf_99 : decode cX12_belowOf 99 = .ok (.lconst 0, 1) := by decide +kernel
theorem dX12_belowOf_100 : decode cX12_belowOf 100 = .ok (.lcmp, 1) := by decide +kernel
theorem dX12_belowOf_101 : decode cX12_belowOf 101 = .ok (.ifCond .le 7, 3) := by decide +kernel
theorem dX12_belowOf_104 : decode cX12_belowOf 104 = .ok (.iconst 1, 1) := by decide +kernel
theorem dX12_belowOf_105 : decode cX12_belowOf 105 = .ok (.goto 4, 3) := by decide +kernel
theorem dX12_belowOf_108 : decode cX12_belowOf 108 = .ok (.iconst 0, 1) := by decide +kernel
theorem dX12_belowOf_109 : decode cX12_belowOf 109 = .ok (.istore 15, 2) := by decide +kernel
theorem dX12_belowOf_111 : decode cX12_belowOf 111 = .ok (.iload 11, 2) := by decide +kernel
theorem dX12_belowOf_113 : decode cX12_belowOf 113 = .ok (.iload 15, 2) := by decide +kernel
theorem dX12_belowOf_115 : decode cX12_belowOf 115 = .ok (.iload 10, 2) := by decide +kernel
theorem dX12_belowOf_117 : decode cX12_belowOf 117 = .ok (.if_icmp .ne 7, 3) := by decide +kernel
theorem dX12_belowOf_120 : decode cX12_belowOf 120 = .ok (.iconst 1, 1) := by decide +kernel
theorem dX12_belowOf_121 : decode cX12_belowOf 121 = .ok (.goto 4, 3) := by decide +kernel
theorem dX12_belowOf_124 : decode cX12_belowOf 124 = .ok (.iconst 0, 1) := by decide +kernel
theorem dX12_belowOf_125 : decode cX12_belowOf 125 = .ok (.iadd, 1) := by decide +kernel
theorem dX12_belowOf_126 : decode cX12_belowOf 126 = .ok (.istore 11, 2) := by decide +kernel
theorem dX12_belowOf_128 : decode cX12_belowOf 128 = .ok (.iload 15, 2) := by decide +kernel
theorem dX12_belowOf_130 : decode cX12_belowOf 130 = .ok (.istore 10, 2) := by decide +kernel
theorem dX12_belowOf_132 : decode cX12_belowOf 132 = .ok (.lload 6, 2) := by decide +kernel
theorem dX12_belowOf_134 : decode cX12_belowOf 134 = .ok (.lstore 8, 2) := by decide +kernel
theorem dX12_belowOf_136 : decode cX12_belowOf 136 = .ok (.lload 13, 2) := by decide +kernel
theorem dX12_belowOf_138 : decode cX12_belowOf 138 = .ok (.lstore 6, 2) := by decide +kernel
theorem dX12_belowOf_140 : decode cX12_belowOf 140 = .ok (.iinc 12 1, 3) := by decide +kernel
theorem dX12_belowOf_143 : decode cX12_belowOf 143 = .ok (.goto (-128), 3) := by decide +kernel
theorem dX12_belowOf_146 : decode cX12_belowOf 146 = .ok (.iload 11, 2) := by decide +kernel
theorem dX12_belowOf_148 : decode cX12_belowOf 148 = .ok (.ireturn, 1) := by decide +kernel
theorem dX12_below_0 : decode cX12_below 0 = .ok (.iload_n 1, 1) := by decide +kernel
theorem dX12_below_1 : decode cX12_below 1 = .ok (.invokestatic 253, 3) := by decide +kernel
theorem dX12_below_4 : decode cX12_below 4 = .ok (.ifCond .eq 50, 3) := by decide +kernel
theorem dX12_below_7 : decode cX12_below 7 = .ok (.aload_n 0, 1) := by decide +kernel
theorem dX12_below_8 : decode cX12_below 8 = .ok (.getfield 48, 3) := by decide +kernel
theorem dX12_below_11 : decode cX12_below 11 = .ok (.iload_n 1, 1) := by decide +kernel
theorem dX12_below_12 : decode cX12_below 12 = .ok (.iaload, 1) := by decide +kernel
theorem dX12_below_13 : decode cX12_below 13 = .ok (.ifCond .le 17, 3) := by decide +kernel
theorem dX12_below_16 : decode cX12_below 16 = .ok (.iload_n 2, 1) := by decide +kernel
theorem dX12_below_17 : decode cX12_below 17 = .ok (.iconst 1, 1) := by decide +kernel
theorem dX12_below_18 : decode cX12_below 18 = .ok (.aload_n 0, 1) := by decide +kernel
theorem dX12_below_19 : decode cX12_below 19 = .ok (.getfield 48, 3) := by decide +kernel
theorem dX12_below_22 : decode cX12_below 22 = .ok (.iload_n 1, 1) := by decide +kernel
theorem dX12_below_23 : decode cX12_below 23 = .ok (.iaload, 1) := by decide +kernel
theorem dX12_below_24 : decode cX12_below 24 = .ok (.invokestatic 134, 3) := by decide +kernel
theorem dX12_below_27 : decode cX12_below 27 = .ok (.ifCond .eq 27, 3) := by decide +kernel
theorem dX12_below_30 : decode cX12_below 30 = .ok (.iload_n 3, 1) := by decide +kernel
theorem dX12_below_31 : decode cX12_below 31 = .ok (.sipush (-1000), 3) := by decide +kernel
theorem dX12_below_34 : decode cX12_below 34 = .ok (.sipush 1000, 3) := by decide +kernel
theorem dX12_below_37 : decode cX12_below 37 = .ok (.invokestatic 134, 3) := by decide +kernel
theorem dX12_below_40 : decode cX12_below 40 = .ok (.ifCond .eq 14, 3) := by decide +kernel
theorem dX12_below_43 : decode cX12_below 43 = .ok (.iload 4, 2) := by decide +kernel
theorem dX12_below_45 : decode cX12_below 45 = .ok (.iconst 1, 1) := by decide +kernel
theorem dX12_below_46 : decode cX12_below 46 = .ok (.bipush 50, 2) := by decide +kernel
theorem dX12_below_48 : decode cX12_below 48 = .ok (.invokestatic 134, 3) := by decide +kernel
theorem dX12_below_51 : decode cX12_below 51 = .ok (.ifCond .ne 5, 3) := by decide +kernel
theorem dX12_below_54 : decode cX12_below 54 = .ok (.iconst (-1), 1) := by decide +kernel
theorem dX12_below_55 : decode cX12_below 55 = .ok (.ireturn, 1) := by decide +kernel
theorem dX12_below_56 : decode cX12_below 56 = .ok (.aload_n 0, 1) := by decide +kernel
theorem dX12_below_57 : decode cX12_below 57 = .ok (.getfield 48, 3) := by decide +kernel
theorem dX12_below_60 : decode cX12_below 60 = .ok (.iload_n 1, 1) := by decide +kernel
theorem dX12_below_61 : decode cX12_below 61 = .ok (.iaload, 1) := by decide +kernel
theorem dX12_below_62 : decode cX12_below 62 = .ok (.ifCond .ne 8, 3) := by decide +kernel
theorem dX12_below_65 : decode cX12_below 65 = .ok (.bipush (-2), 2) := by decide +kernel
theorem dX12_below_67 : decode cX12_below 67 = .ok (.goto 13, 3) := by decide +kernel
theorem dX12_below_70 : decode cX12_below 70 = .ok (.aload_n 0, 1) := by decide +kernel
theorem dX12_below_71 : decode cX12_below 71 = .ok (.iload_n 1, 1) := by decide +kernel
theorem dX12_below_72 : decode cX12_below 72 = .ok (.iconst 0, 1) := by decide +kernel
theorem dX12_below_73 : decode cX12_below 73 = .ok (.iload_n 2, 1) := by decide +kernel
theorem dX12_below_74 : decode cX12_below 74 = .ok (.iload_n 3, 1) := by decide +kernel
theorem dX12_below_75 : decode cX12_below 75 = .ok (.iload 4, 2) := by decide +kernel
theorem dX12_below_77 : decode cX12_below 77 = .ok (.invokevirtual 283, 3) := by decide +kernel
theorem dX12_below_80 : decode cX12_below 80 = .ok (.ireturn, 1) := by decide +kernel
theorem dX12_rootOf_0 : decode cX12_rootOf 0 = .ok (.bipush (-20), 2) := by decide +kernel
theorem dX12_rootOf_2 : decode cX12_rootOf 2 = .ok (.iload 5, 2) := by decide +kernel
theorem dX12_rootOf_4 : decode cX12_rootOf 4 = .ok (.imul, 1) := by decide +kernel
theorem dX12_rootOf_5 : decode cX12_rootOf 5 = .ok (.istore 6, 2) := by decide +kernel
theorem dX12_rootOf_7 : decode cX12_rootOf 7 = .ok (.bipush 20, 2) := by decide +kernel
theorem dX12_rootOf_9 : decode cX12_rootOf 9 = .ok (.iload 5, 2) := by decide +kernel
theorem dX12_rootOf_11 : decode cX12_rootOf 11 = .ok (.imul, 1) := by decide +kernel
theorem dX12_rootOf_12 : decode cX12_rootOf 12 = .ok (.istore 7, 2) := by decide +kernel
theorem dX12_rootOf_14 : decode cX12_rootOf 14 = .ok (.iload 6, 2) := by decide +kernel
theorem dX12_rootOf_16 : decode cX12_rootOf 16 = .ok (.iload 7, 2) := by decide +kernel
theorem dX12_rootOf_18 : decode cX12_rootOf 18 = .ok (.if_icmp .ge 49, 3) := by decide +kernel
theorem dX12_rootOf_21 : decode cX12_rootOf 21 = .ok (.iload 6, 2) := by decide +kernel
theorem dX12_rootOf_23 : decode cX12_rootOf 23 = .ok (.iload 7, 2) := by decide +kernel
theorem dX12_rootOf_25 : decode cX12_rootOf 25 = .ok (.iload 6, 2) := by decide +kernel
theorem dX12_rootOf_27 : decode cX12_rootOf 27 = .ok (.isub, 1) := by decide +kernel
theorem dX12_rootOf_28 : decode cX12_rootOf 28 = .ok (.iconst 1, 1) := by decide +kernel
theorem dX12_rootOf_29 : decode cX12_rootOf 29 = .ok (.iadd, 1) := by decide +kernel
theorem dX12_rootOf_30 : decode cX12_rootOf 30 = .ok (.iconst 2, 1) := by decide +kernel
theorem dX12_rootOf_31 : decode cX12_rootOf 31 = .ok (.idiv, 1) := by decide +kernel
theorem dX12_rootOf_32 : decode cX12_rootOf 32 = .ok (.iadd, 1) := by decide +kernel
theorem dX12_rootOf_33 : decode cX12_rootOf 33 = .ok (.istore 8, 2) := by decide +kernel
theorem dX12_rootOf_35 : decode cX12_rootOf 35 = .ok (.aload_n 0, 1) := by decide +kernel
theorem dX12_rootOf_36 : decode cX12_rootOf 36 = .ok (.iload_n 1, 1) := by decide +kernel
theorem dX12_rootOf_37 : decode cX12_rootOf 37 = .ok (.iload_n 2, 1) := by decide +kernel
theorem dX12_rootOf_38 : decode cX12_rootOf 38 = .ok (.iload_n 3, 1) := by decide +kernel
theorem dX12_rootOf_39 : decode cX12_rootOf 39 = .ok (.iload 8, 2) := by decide +kernel
theorem dX12_rootOf_41 : decode cX12_rootOf 41 = .ok (.iload 5, 2) := by decide +kernel
theorem dX12_rootOf_43 : decode cX12_rootOf 43 = .ok (.invokevirtual 283, 3) := by decide +kernel
theorem dX12_rootOf_46 : decode cX12_rootOf 46 = .ok (.iload 4, 2) := by decide +kernel
theorem dX12_rootOf_48 : decode cX12_rootOf 48 = .ok (.if_icmp .gt 10, 3) := by decide +kernel
theorem dX12_rootOf_51 : decode cX12_rootOf 51 = .ok (.iload 8, 2) := by decide +kernel
theorem dX12_rootOf_53 : decode cX12_rootOf 53 = .ok (.istore 6, 2) := by decide +kernel
theorem dX12_rootOf_55 : decode cX12_rootOf 55 = .ok (.goto 9, 3) := by decide +kernel
theorem dX12_rootOf_58 : decode cX12_rootOf 58 = .ok (.iload 8, 2) := by decide +kernel
theorem dX12_rootOf_60 : decode cX12_rootOf 60 = .ok (.iconst 1, 1) := by decide +kernel
theorem dX12_rootOf_61 : decode cX12_rootOf 61 = .ok (.isub, 1) := by decide +kernel
theorem dX12_rootOf_62 : decode cX12_rootOf 62 = .ok (.istore 7, 2) := by decide +kernel
theorem dX12_rootOf_64 : decode cX12_rootOf 64 = .ok (.goto (-50), 3) := by decide +kernel
theorem dX12_rootOf_67 : decode cX12_rootOf 67 = .ok (.iload 6, 2) := by decide +kernel
theorem dX12_rootOf_69 : decode cX12_rootOf 69 = .ok (.ireturn, 1) := by decide +kernel
theorem dX12_root_0 : decode cX12_root 0 = .ok (.iload_n 1, 1) := by decide +kernel
theorem dX12_root_1 : decode cX12_root 1 = .ok (.invokestatic 253, 3) := by decide +kernel
theorem dX12_root_4 : decode cX12_root 4 = .ok (.ifCond .eq 48, 3) := by decide +kernel
theorem dX12_root_7 : decode cX12_root 7 = .ok (.iload 4, 2) := by decide +kernel
theorem dX12_root_9 : decode cX12_root 9 = .ok (.iconst 1, 1) := by decide +kernel
theorem dX12_root_10 : decode cX12_root 10 = .ok (.bipush 50, 2) := by decide +kernel
theorem dX12_root_12 : decode cX12_root 12 = .ok (.invokestatic 134, 3) := by decide +kernel
theorem dX12_root_15 : decode cX12_root 15 = .ok (.ifCond .eq 37, 3) := by decide +kernel
theorem dX12_root_18 : decode cX12_root 18 = .ok (.aload_n 0, 1) := by decide +kernel
theorem dX12_root_19 : decode cX12_root 19 = .ok (.getfield 48, 3) := by decide +kernel
theorem dX12_root_22 : decode cX12_root 22 = .ok (.iload_n 1, 1) := by decide +kernel
theorem dX12_root_23 : decode cX12_root 23 = .ok (.iaload, 1) := by decide +kernel
theorem dX12_root_24 : decode cX12_root 24 = .ok (.ifCond .le 32, 3) := by decide +kernel
theorem dX12_root_27 : decode cX12_root 27 = .ok (.iload_n 2, 1) := by decide +kernel
theorem dX12_root_28 : decode cX12_root 28 = .ok (.iconst 1, 1) := by decide +kernel
theorem dX12_root_29 : decode cX12_root 29 = .ok (.aload_n 0, 1) := by decide +kernel
theorem dX12_root_30 : decode cX12_root 30 = .ok (.getfield 48, 3) := by decide +kernel
theorem dX12_root_33 : decode cX12_root 33 = .ok (.iload_n 1, 1) := by decide +kernel
theorem dX12_root_34 : decode cX12_root 34 = .ok (.iaload, 1) := by decide +kernel
theorem dX12_root_35 : decode cX12_root 35 = .ok (.invokestatic 134, 3) := by decide +kernel
theorem dX12_root_38 : decode cX12_root 38 = .ok (.ifCond .eq 14, 3) := by decide +kernel
theorem dX12_root_41 : decode cX12_root 41 = .ok (.iload_n 3, 1) := by decide +kernel
theorem dX12_root_42 : decode cX12_root 42 = .ok (.iconst 0, 1) := by decide +kernel
theorem dX12_root_43 : decode cX12_root 43 = .ok (.iload_n 2, 1) := by decide +kernel
theorem dX12_root_44 : decode cX12_root 44 = .ok (.iconst 1, 1) := by decide +kernel
theorem dX12_root_45 : decode cX12_root 45 = .ok (.isub, 1) := by decide +kernel
theorem dX12_root_46 : decode cX12_root 46 = .ok (.invokestatic 134, 3) := by decide +kernel
theorem dX12_root_49 : decode cX12_root 49 = .ok (.ifCond .ne 7, 3) := by decide +kernel
theorem dX12_root_52 : decode cX12_root 52 = .ok (.ldc_w 287, 3) := by decide +kernel
theorem dX12_root_55 : decode cX12_root 55 = .ok (.ireturn, 1) := by decide +kernel
theorem dX12_root_56 : decode cX12_root 56 = .ok (.aload_n 0, 1) := by decide +kernel
theorem dX12_root_57 : decode cX12_root 57 = .ok (.getfield 48, 3) := by decide +kernel
theorem dX12_root_60 : decode cX12_root 60 = .ok (.iload_n 1, 1) := by decide +kernel
theorem dX12_root_61 : decode cX12_root 61 = .ok (.iaload, 1) := by decide +kernel
theorem dX12_root_62 : decode cX12_root 62 = .ok (.ifCond .ne 9, 3) := by decide +kernel
theorem dX12_root_65 : decode cX12_root 65 = .ok (.ldc_w 288, 3) := by decide +kernel
theorem dX12_root_68 : decode cX12_root 68 = .ok (.goto 13, 3) := by decide +kernel
theorem dX12_root_71 : decode cX12_root 71 = .ok (.aload_n 0, 1) := by decide +kernel
theorem dX12_root_72 : decode cX12_root 72 = .ok (.iload_n 1, 1) := by decide +kernel
theorem dX12_root_73 : decode cX12_root 73 = .ok (.iconst 0, 1) := by decide +kernel
theorem dX12_root_74 : decode cX12_root 74 = .ok (.iload_n 2, 1) := by decide +kernel
theorem dX12_root_75 : decode cX12_root 75 = .ok (.iload_n 3, 1) := by decide +kernel
theorem dX12_root_76 : decode cX12_root 76 = .ok (.iload 4, 2) := by decide +kernel
theorem dX12_root_78 : decode cX12_root 78 = .ok (.invokevirtual 289, 3) := by decide +kernel
theorem dX12_root_81 : decode cX12_root 81 = .ok (.ireturn, 1) := by decide +kernel
theorem dX12_wholeOf_0 : decode cX12_wholeOf 0 = .ok (.iconst 0, 1) := by decide +kernel
theorem dX12_wholeOf_1 : decode cX12_wholeOf 1 = .ok (.istore 4, 2) := by decide +kernel
theorem dX12_wholeOf_3 : decode cX12_wholeOf 3 = .ok (.bipush (-20), 2) := by decide +kernel
theorem dX12_wholeOf_5 : decode cX12_wholeOf 5 = .ok (.istore 5, 2) := by decide +kernel
theorem dX12_wholeOf_7 : decode cX12_wholeOf 7 = .ok (.iload 5, 2) := by decide +kernel
theorem dX12_wholeOf_9 : decode cX12_wholeOf 9 = .ok (.bipush 20, 2) := by decide +kernel
theorem dX12_wholeOf_11 : decode cX12_wholeOf 11 = .ok (.if_icmp .gt 34, 3) := by decide +kernel
theorem dX12_wholeOf_14 : decode cX12_wholeOf 14 = .ok (.iload 4, 2) := by decide +kernel
theorem dX12_wholeOf_16 : decode cX12_wholeOf 16 = .ok (.aload_n 0, 1) := by decide +kernel
theorem dX12_wholeOf_17 : decode cX12_wholeOf 17 = .ok (.iload_n 1, 1) := by decide +kernel
theorem dX12_wholeOf_18 : decode cX12_wholeOf 18 = .ok (.iload_n 2, 1) := by decide +kernel
theorem dX12_wholeOf_19 : decode cX12_wholeOf 19 = .ok (.iload_n 3, 1) := by decide +kernel
theorem dX12_wholeOf_20 : decode cX12_wholeOf 20 = .ok (.iload 5, 2) := by decide +kernel
theorem dX12_wholeOf_22 : decode cX12_wholeOf 22 = .ok (.i2l, 1) := by decide +kernel
theorem dX12_wholeOf_23 : decode cX12_wholeOf 23 = .ok (.invokevirtual 279, 3) := by decide +kernel
theorem dX12_wholeOf_26 : decode cX12_wholeOf 26 = .ok (.lconst 0, 1) := by decide +kernel
theorem dX12_wholeOf_27 : decode cX12_wholeOf 27 = .ok (.lcmp, 1) := by decide +kernel
theorem dX12_wholeOf_28 : decode cX12_wholeOf 28 = .ok (.ifCond .ne 7, 3) := by decide +kernel
theorem dX12_wholeOf_31 : decode cX12_wholeOf 31 = .ok (.iconst 1, 1) := by decide +kernel
theorem dX12_wholeOf_32 : decode cX12_wholeOf 32 = .ok (.goto 4, 3) := by decide +kernel
theorem dX12_wholeOf_35 : decode cX12_wholeOf 35 = .ok (.iconst 0, 1) := by decide +kernel
theorem dX12_wholeOf_36 : decode cX12_wholeOf 36 = .ok (.iadd, 1) := by decide +kernel
theorem dX12_wholeOf_37 : decode cX12_wholeOf 37 = .ok (.istore 4, 2) := by decide +kernel
theorem dX12_wholeOf_39 : decode cX12_wholeOf 39 = .ok (.iinc 5 1, 3) := by decide +kernel
theorem dX12_wholeOf_42 : decode cX12_wholeOf 42 = .ok (.goto (-35), 3) := by decide +kernel
theorem dX12_wholeOf_45 : decode cX12_wholeOf 45 = .ok (.iload 4, 2) := by decide +kernel
theorem dX12_wholeOf_47 : decode cX12_wholeOf 47 = .ok (.ireturn, 1) := by decide +kernel
theorem dX12_whole_0 : decode cX12_whole 0 = .ok (.iload_n 1, 1) := by decide +kernel
theorem dX12_whole_1 : decode cX12_whole 1 = .ok (.invokestatic 253, 3) := by decide +kernel
theorem dX12_whole_4 : decode cX12_whole 4 = .ok (.ifCond .eq 26, 3) := by decide +kernel
theorem dX12_whole_7 : decode cX12_whole 7 = .ok (.aload_n 0, 1) := by decide +kernel
theorem dX12_whole_8 : decode cX12_whole 8 = .ok (.getfield 48, 3) := by decide +kernel
theorem dX12_whole_11 : decode cX12_whole 11 = .ok (.iload_n 1, 1) := by decide +kernel
theorem dX12_whole_12 : decode cX12_whole 12 = .ok (.iaload, 1) := by decide +kernel
theorem dX12_whole_13 : decode cX12_whole 13 = .ok (.ifCond .le 19, 3) := by decide +kernel
theorem dX12_whole_16 : decode cX12_whole 16 = .ok (.iload_n 2, 1) := by decide +kernel
theorem dX12_whole_17 : decode cX12_whole 17 = .ok (.iconst 1, 1) := by decide +kernel
theorem dX12_whole_18 : decode cX12_whole 18 = .ok (.aload_n 0, 1) := by decide +kernel
theorem dX12_whole_19 : decode cX12_whole 19 = .ok (.getfield 48, 3) := by decide +kernel
theorem dX12_whole_22 : decode cX12_whole 22 = .ok (.iload_n 1, 1) := by decide +kernel
theorem dX12_whole_23 : decode cX12_whole 23 = .ok (.iaload, 1) := by decide +kernel
theorem dX12_whole_24 : decode cX12_whole 24 = .ok (.invokestatic 134, 3) := by decide +kernel
theorem dX12_whole_27 : decode cX12_whole 27 = .ok (.ifCond .ne 5, 3) := by decide +kernel
theorem dX12_whole_30 : decode cX12_whole 30 = .ok (.iconst (-1), 1) := by decide +kernel
theorem dX12_whole_31 : decode cX12_whole 31 = .ok (.ireturn, 1) := by decide +kernel
theorem dX12_whole_32 : decode cX12_whole 32 = .ok (.aload_n 0, 1) := by decide +kernel
theorem dX12_whole_33 : decode cX12_whole 33 = .ok (.getfield 48, 3) := by decide +kernel
theorem dX12_whole_36 : decode cX12_whole 36 = .ok (.iload_n 1, 1) := by decide +kernel
theorem dX12_whole_37 : decode cX12_whole 37 = .ok (.iaload, 1) := by decide +kernel
theorem dX12_whole_38 : decode cX12_whole 38 = .ok (.ifCond .ne 8, 3) := by decide +kernel
theorem dX12_whole_41 : decode cX12_whole 41 = .ok (.bipush (-2), 2) := by decide +kernel
theorem dX12_whole_43 : decode cX12_whole 43 = .ok (.goto 10, 3) := by decide +kernel
theorem dX12_whole_46 : decode cX12_whole 46 = .ok (.aload_n 0, 1) := by decide +kernel
theorem dX12_whole_47 : decode cX12_whole 47 = .ok (.iload_n 1, 1) := by decide +kernel
theorem dX12_whole_48 : decode cX12_whole 48 = .ok (.iconst 0, 1) := by decide +kernel
theorem dX12_whole_49 : decode cX12_whole 49 = .ok (.iload_n 2, 1) := by decide +kernel
theorem dX12_whole_50 : decode cX12_whole 50 = .ok (.invokevirtual 292, 3) := by decide +kernel
theorem dX12_whole_53 : decode cX12_whole 53 = .ok (.ireturn, 1) := by decide +kernel
theorem dX12_inverse_0 : decode cX12_inverse 0 = .ok (.iload_n 1, 1) := by decide +kernel
theorem dX12_inverse_1 : decode cX12_inverse 1 = .ok (.invokestatic 253, 3) := by decide +kernel
theorem dX12_inverse_4 : decode cX12_inverse 4 = .ok (.ifCond .eq 54, 3) := by decide +kernel
theorem dX12_inverse_7 : decode cX12_inverse 7 = .ok (.aload_n 0, 1) := by decide +kernel
theorem dX12_inverse_8 : decode cX12_inverse 8 = .ok (.getfield 48, 3) := by decide +kernel
theorem dX12_inverse_11 : decode cX12_inverse 11 = .ok (.iload_n 1, 1) := by decide +kernel
theorem dX12_inverse_12 : decode cX12_inverse 12 = .ok (.iaload, 1) := by decide +kernel
theorem dX12_inverse_13 : decode cX12_inverse 13 = .ok (.ifCond .eq 45, 3) := by decide +kernel
theorem dX12_inverse_16 : decode cX12_inverse 16 = .ok (.iload_n 2, 1) := by decide +kernel
theorem dX12_inverse_17 : decode cX12_inverse 17 = .ok (.iconst 0, 1) := by decide +kernel
theorem dX12_inverse_18 : decode cX12_inverse 18 = .ok (.aload_n 0, 1) := by decide +kernel
theorem dX12_inverse_19 : decode cX12_inverse 19 = .ok (.getfield 48, 3) := by decide +kernel
theorem dX12_inverse_22 : decode cX12_inverse 22 = .ok (.iload_n 1, 1) := by decide +kernel
theorem dX12_inverse_23 : decode cX12_inverse 23 = .ok (.iaload, 1) := by decide +kernel
theorem dX12_inverse_24 : decode cX12_inverse 24 = .ok (.iconst 1, 1) := by decide +kernel
theorem dX12_inverse_25 : decode cX12_inverse 25 = .ok (.isub, 1) := by decide +kernel
theorem dX12_inverse_26 : decode cX12_inverse 26 = .ok (.invokestatic 134, 3) := by decide +kernel
theorem dX12_inverse_29 : decode cX12_inverse 29 = .ok (.ifCond .eq 29, 3) := by decide +kernel
theorem dX12_inverse_32 : decode cX12_inverse 32 = .ok (.iload_n 3, 1) := by decide +kernel
theorem dX12_inverse_33 : decode cX12_inverse 33 = .ok (.iconst 0, 1) := by decide +kernel
theorem dX12_inverse_34 : decode cX12_inverse 34 = .ok (.aload_n 0, 1) := by decide +kernel
theorem dX12_inverse_35 : decode cX12_inverse 35 = .ok (.getfield 48, 3) := by decide +kernel
theorem dX12_inverse_38 : decode cX12_inverse 38 = .ok (.iload_n 1, 1) := by decide +kernel
theorem dX12_inverse_39 : decode cX12_inverse 39 = .ok (.iaload, 1) := by decide +kernel
theorem dX12_inverse_40 : decode cX12_inverse 40 = .ok (.iconst 1, 1) := by decide +kernel
theorem dX12_inverse_41 : decode cX12_inverse 41 = .ok (.isub, 1) := by decide +kernel
theorem dX12_inverse_42 : decode cX12_inverse 42 = .ok (.invokestatic 134, 3) := by decide +kernel
theorem dX12_inverse_45 : decode cX12_inverse 45 = .ok (.ifCond .eq 13, 3) := by decide +kernel
theorem dX12_inverse_48 : decode cX12_inverse 48 = .ok (.iload 4, 2) := by decide +kernel
theorem dX12_inverse_50 : decode cX12_inverse 50 = .ok (.iconst 0, 1) := by decide +kernel
theorem dX12_inverse_51 : decode cX12_inverse 51 = .ok (.iconst 1, 1) := by decide +kernel
theorem dX12_inverse_52 : decode cX12_inverse 52 = .ok (.invokestatic 134, 3) := by decide +kernel
theorem dX12_inverse_55 : decode cX12_inverse 55 = .ok (.ifCond .ne 7, 3) := by decide +kernel
theorem dX12_inverse_58 : decode cX12_inverse 58 = .ok (.ldc2_w 156, 3) := by decide +kernel
theorem dX12_inverse_61 : decode cX12_inverse 61 = .ok (.lreturn, 1) := by decide +kernel
theorem dX12_inverse_62 : decode cX12_inverse 62 = .ok (.aload_n 0, 1) := by decide +kernel
theorem dX12_inverse_63 : decode cX12_inverse 63 = .ok (.getfield 48, 3) := by decide +kernel
theorem dX12_inverse_66 : decode cX12_inverse 66 = .ok (.iload_n 1, 1) := by decide +kernel
theorem dX12_inverse_67 : decode cX12_inverse 67 = .ok (.iaload, 1) := by decide +kernel
theorem dX12_inverse_68 : decode cX12_inverse 68 = .ok (.istore 5, 2) := by decide +kernel
theorem dX12_inverse_70 : decode cX12_inverse 70 = .ok (.aload_n 0, 1) := by decide +kernel
theorem dX12_inverse_71 : decode cX12_inverse 71 = .ok (.iload_n 1, 1) := by decide +kernel
theorem dX12_inverse_72 : decode cX12_inverse 72 = .ok (.iconst 0, 1) := by decide +kernel
theorem dX12_inverse_73 : decode cX12_inverse 73 = .ok (.iload 5, 2) := by decide +kernel
theorem dX12_inverse_75 : decode cX12_inverse 75 = .ok (.lconst 0, 1) := by decide +kernel
theorem dX12_inverse_76 : decode cX12_inverse 76 = .ok (.invokevirtual 279, 3) := by decide +kernel
theorem dX12_inverse_79 : decode cX12_inverse 79 = .ok (.lstore 6, 2) := by decide +kernel
theorem dX12_inverse_81 : decode cX12_inverse 81 = .ok (.lload 6, 2) := by decide +kernel
theorem dX12_inverse_83 : decode cX12_inverse 83 = .ok (.lconst 0, 1) := by decide +kernel
theorem dX12_inverse_84 : decode cX12_inverse 84 = .ok (.lcmp, 1) := by decide +kernel
theorem dX12_inverse_85 : decode cX12_inverse 85 = .ok (.ifCond .ne 7, 3) := by decide +kernel
theorem dX12_inverse_88 : decode cX12_inverse 88 = .ok (.ldc2_w 232, 3) := by decide +kernel
theorem dX12_inverse_91 : decode cX12_inverse 91 = .ok (.lreturn, 1) := by decide +kernel
theorem dX12_inverse_92 : decode cX12_inverse 92 = .ok (.iload_n 2, 1) := by decide +kernel
theorem dX12_inverse_93 : decode cX12_inverse 93 = .ok (.iload_n 3, 1) := by decide +kernel
theorem dX12_inverse_94 : decode cX12_inverse 94 = .ok (.if_icmp .ge 7, 3) := by decide +kernel
theorem dX12_inverse_97 : decode cX12_inverse 97 = .ok (.iload_n 2, 1) := by decide +kernel
theorem dX12_inverse_98 : decode cX12_inverse 98 = .ok (.goto 4, 3) := by decide +kernel
theorem dX12_inverse_101 : decode cX12_inverse 101 = .ok (.iload_n 3, 1) := by decide +kernel
theorem dX12_inverse_102 : decode cX12_inverse 102 = .ok (.istore 8, 2) := by decide +kernel
theorem dX12_inverse_104 : decode cX12_inverse 104 = .ok (.iload_n 2, 1) := by decide +kernel
theorem dX12_inverse_105 : decode cX12_inverse 105 = .ok (.iload_n 3, 1) := by decide +kernel
theorem dX12_inverse_106 : decode cX12_inverse 106 = .ok (.if_icmp .ge 7, 3) := by decide +kernel
theorem dX12_inverse_109 : decode cX12_inverse 109 = .ok (.iload_n 3, 1) := by decide +kernel
theorem dX12_inverse_110 : decode cX12_inverse 110 = .ok (.goto 4, 3) := by decide +kernel
theorem dX12_inverse_113 : decode cX12_inverse 113 = .ok (.iload_n 2, 1) := by decide +kernel
theorem dX12_inverse_114 : decode cX12_inverse 114 = .ok (.istore 9, 2) := by decide +kernel
theorem dX12_inverse_116 : decode cX12_inverse 116 = .ok (.aload_n 0, 1) := by decide +kernel
theorem dX12_inverse_117 : decode cX12_inverse 117 = .ok (.iload_n 1, 1) := by decide +kernel
theorem dX12_inverse_118 : decode cX12_inverse 118 = .ok (.iconst 0, 1) := by decide +kernel
theorem dX12_inverse_119 : decode cX12_inverse 119 = .ok (.iload 8, 2) := by decide +kernel
theorem dX12_inverse_121 : decode cX12_inverse 121 = .ok (.lconst 0, 1) := by decide +kernel
theorem dX12_inverse_122 : decode cX12_inverse 122 = .ok (.invokevirtual 279, 3) := by decide +kernel
theorem dX12_inverse_125 : decode cX12_inverse 125 = .ok (.lstore 10, 2) := by decide +kernel
theorem dX12_inverse_127 : decode cX12_inverse 127 = .ok (.aload_n 0, 1) := by decide +kernel
theorem dX12_inverse_128 : decode cX12_inverse 128 = .ok (.iload_n 1, 1) := by decide +kernel
theorem dX12_inverse_129 : decode cX12_inverse 129 = .ok (.iload 9, 2) := by decide +kernel
theorem dX12_inverse_131 : decode cX12_inverse 131 = .ok (.iconst 1, 1) := by decide +kernel
theorem dX12_inverse_132 : decode cX12_inverse 132 = .ok (.iadd, 1) := by decide +kernel
theorem dX12_inverse_133 : decode cX12_inverse 133 = .ok (.iload 5, 2) := by decide +kernel
theorem dX12_inverse_135 : decode cX12_inverse 135 = .ok (.iload 9, 2) := by decide +kernel
theorem dX12_inverse_137 : decode cX12_inverse 137 = .ok (.isub, 1) := by decide +kernel
theorem dX12_inverse_138 : decode cX12_inverse 138 = .ok (.iconst 1, 1) := by decide +kernel
theorem dX12_inverse_139 : decode cX12_inverse 139 = .ok (.isub, 1) := by decide +kernel
theorem dX12_inverse_140 : decode cX12_inverse 140 = .ok (.lconst 0, 1) := by decide +kernel
theorem dX12_inverse_141 : decode cX12_inverse 141 = .ok (.invokevirtual 279, 3) := by decide +kernel
theorem dX12_inverse_144 : decode cX12_inverse 144 = .ok (.lstore 12, 2) := by decide +kernel
theorem dX12_inverse_146 : decode cX12_inverse 146 = .ok (.iload_n 2, 1) := by decide +kernel
theorem dX12_inverse_147 : decode cX12_inverse 147 = .ok (.iload_n 3, 1) := by decide +kernel
theorem dX12_inverse_148 : decode cX12_inverse 148 = .ok (.if_icmp .ne 22, 3) := by decide +kernel
theorem dX12_inverse_151 : decode cX12_inverse 151 = .ok (.aload_n 0, 1) := by decide +kernel
theorem dX12_inverse_152 : decode cX12_inverse 152 = .ok (.lload 10, 2) := by decide +kernel
theorem dX12_inverse_154 : decode cX12_inverse 154 = .ok (.lneg, 1) := by decide +kernel
theorem dX12_inverse_155 : decode cX12_inverse 155 = .ok (.lload 12, 2) := by decide +kernel
theorem dX12_inverse_157 : decode cX12_inverse 157 = .ok (.lmul, 1) := by decide +kernel
theorem dX12_inverse_158 : decode cX12_inverse 158 = .ok (.lload 6, 2) := by decide +kernel
theorem dX12_inverse_160 : decode cX12_inverse 160 = .ok (.invokevirtual 191, 3) := by decide +kernel
theorem dX12_inverse_163 : decode cX12_inverse 163 = .ok (.aload_n 0, 1) := by decide +kernel
theorem dX12_inverse_164 : decode cX12_inverse 164 = .ok (.iload 4, 2) := by decide +kernel
theorem dX12_inverse_166 : decode cX12_inverse 166 = .ok (.invokevirtual 195, 3) := by decide +kernel
theorem dX12_inverse_169 : decode cX12_inverse 169 = .ok (.lreturn, 1) := by decide +kernel
theorem dX12_inverse_170 : decode cX12_inverse 170 = .ok (.aload_n 0, 1) := by decide +kernel
theorem dX12_inverse_171 : decode cX12_inverse 171 = .ok (.lload 10, 2) := by decide +kernel
theorem dX12_inverse_173 : decode cX12_inverse 173 = .ok (.lload 12, 2) := by decide +kernel
theorem dX12_inverse_175 : decode cX12_inverse 175 = .ok (.lmul, 1) := by decide +kernel
theorem dX12_inverse_176 : decode cX12_inverse 176 = .ok (.lload 6, 2) := by decide +kernel
theorem dX12_inverse_178 : decode cX12_inverse 178 = .ok (.invokevirtual 191, 3) := by decide +kernel
theorem dX12_inverse_181 : decode cX12_inverse 181 = .ok (.aload_n 0, 1) := by decide +kernel
theorem dX12_inverse_182 : decode cX12_inverse 182 = .ok (.getfield 177, 3) := by decide +kernel
theorem dX12_inverse_185 : decode cX12_inverse 185 = .ok (.lstore 14, 2) := by decide +kernel
theorem dX12_inverse_187 : decode cX12_inverse 187 = .ok (.aload_n 0, 1) := by decide +kernel
theorem dX12_inverse_188 : decode cX12_inverse 188 = .ok (.getfield 181, 3) := by decide +kernel
theorem dX12_inverse_191 : decode cX12_inverse 191 = .ok (.lstore 16, 2) := by decide +kernel
theorem dX12_inverse_193 : decode cX12_inverse 193 = .ok (.aload_n 0, 1) := by decide +kernel
theorem dX12_inverse_194 : decode cX12_inverse 194 = .ok (.lload 14, 2) := by decide +kernel
theorem dX12_inverse_196 : decode cX12_inverse 196 = .ok (.lload 16, 2) := by decide +kernel
theorem dX12_inverse_198 : decode cX12_inverse 198 = .ok (.invokevirtual 208, 3) := by decide +kernel
theorem dX12_inverse_201 : decode cX12_inverse 201 = .ok (.iload 8, 2) := by decide +kernel
theorem dX12_inverse_203 : decode cX12_inverse 203 = .ok (.istore 18, 2) := by decide +kernel
theorem dX12_inverse_205 : decode cX12_inverse 205 = .ok (.iload 18, 2) := by decide +kernel
theorem dX12_inverse_207 : decode cX12_inverse 207 = .ok (.iload 9, 2) := by decide +kernel
theorem dX12_inverse_209 : decode cX12_inverse 209 = .ok (.if_icmp .ge 22, 3) := by decide +kernel
theorem dX12_inverse_212 : decode cX12_inverse 212 = .ok (.aload_n 0, 1) := by decide +kernel
theorem dX12_inverse_213 : decode cX12_inverse 213 = .ok (.aload_n 0, 1) := by decide +kernel
theorem dX12_inverse_214 : decode cX12_inverse 214 = .ok (.iload_n 1, 1) := by decide +kernel
theorem dX12_inverse_215 : decode cX12_inverse 215 = .ok (.iload 18, 2) := by decide +kernel
theorem dX12_inverse_217 : decode cX12_inverse 217 = .ok (.invokevirtual 260, 3) := by decide +kernel
theorem dX12_inverse_220 : decode cX12_inverse 220 = .ok (.i2l, 1) := by decide +kernel
theorem dX12_inverse_221 : decode cX12_inverse 221 = .ok (.lconst 1, 1) := by decide +kernel
theorem dX12_inverse_222 : decode cX12_inverse 222 = .ok (.invokevirtual 208, 3) := by decide +kernel
theorem dX12_inverse_225 : decode cX12_inverse 225 = .ok (.iinc 18 1, 3) := by decide +kernel
theorem dX12_inverse_228 : decode cX12_inverse 228 = .ok (.goto (-23), 3) := by decide +kernel
theorem dX12_inverse_231 : decode cX12_inverse 231 = .ok (.aload_n 0, 1) := by decide +kernel
theorem dX12_inverse_232 : decode cX12_inverse 232 = .ok (.iload 4, 2) := by decide +kernel
theorem dX12_inverse_234 : decode cX12_inverse 234 = .ok (.invokevirtual 195, 3) := by decide +kernel
theorem dX12_inverse_237 : decode cX12_inverse 237 = .ok (.lreturn, 1) := by decide +kernel
theorem dX12_alike_0 : decode cX12_alike 0 = .ok (.iload_n 1, 1) := by decide +kernel
theorem dX12_alike_1 : decode cX12_alike 1 = .ok (.invokestatic 253, 3) := by decide +kernel
theorem dX12_alike_4 : decode cX12_alike 4 = .ok (.ifCond .eq 19, 3) := by decide +kernel
theorem dX12_alike_7 : decode cX12_alike 7 = .ok (.iload_n 2, 1) := by decide +kernel
theorem dX12_alike_8 : decode cX12_alike 8 = .ok (.invokestatic 253, 3) := by decide +kernel
theorem dX12_alike_11 : decode cX12_alike 11 = .ok (.ifCond .eq 12, 3) := by decide +kernel
theorem dX12_alike_14 : decode cX12_alike 14 = .ok (.iload_n 3, 1) := by decide +kernel
theorem dX12_alike_15 : decode cX12_alike 15 = .ok (.iconst 0, 1) := by decide +kernel
theorem dX12_alike_16 : decode cX12_alike 16 = .ok (.iconst 2, 1) := by decide +kernel
theorem dX12_alike_17 : decode cX12_alike 17 = .ok (.invokestatic 134, 3) := by decide +kernel
theorem dX12_alike_20 : decode cX12_alike 20 = .ok (.ifCond .ne 5, 3) := by decide +kernel
theorem dX12_alike_23 : decode cX12_alike 23 = .ok (.iconst (-1), 1) := by decide +kernel
theorem dX12_alike_24 : decode cX12_alike 24 = .ok (.ireturn, 1) := by decide +kernel
theorem dX12_alike_25 : decode cX12_alike 25 = .ok (.aload_n 0, 1) := by decide +kernel
theorem dX12_alike_26 : decode cX12_alike 26 = .ok (.getfield 48, 3) := by decide +kernel
theorem dX12_alike_29 : decode cX12_alike 29 = .ok (.iload_n 1, 1) := by decide +kernel
theorem dX12_alike_30 : decode cX12_alike 30 = .ok (.iaload, 1) := by decide +kernel
theorem dX12_alike_31 : decode cX12_alike 31 = .ok (.ifCond .eq 12, 3) := by decide +kernel
theorem dX12_alike_34 : decode cX12_alike 34 = .ok (.aload_n 0, 1) := by decide +kernel
theorem dX12_alike_35 : decode cX12_alike 35 = .ok (.getfield 48, 3) := by decide +kernel
theorem dX12_alike_38 : decode cX12_alike 38 = .ok (.iload_n 2, 1) := by decide +kernel
theorem dX12_alike_39 : decode cX12_alike 39 = .ok (.iaload, 1) := by decide +kernel
theorem dX12_alike_40 : decode cX12_alike 40 = .ok (.ifCond .ne 6, 3) := by decide +kernel
theorem dX12_alike_43 : decode cX12_alike 43 = .ok (.bipush (-2), 2) := by decide +kernel
theorem dX12_alike_45 : decode cX12_alike 45 = .ok (.ireturn, 1) := by decide +kernel
theorem dX12_alike_46 : decode cX12_alike 46 = .ok (.iload_n 3, 1) := by decide +kernel
theorem dX12_alike_47 : decode cX12_alike 47 = .ok (.iconst 2, 1) := by decide +kernel
theorem dX12_alike_48 : decode cX12_alike 48 = .ok (.if_icmp .ne 114, 3) := by decide +kernel
theorem dX12_alike_51 : decode cX12_alike 51 = .ok (.iconst 0, 1) := by decide +kernel
theorem dX12_alike_52 : decode cX12_alike 52 = .ok (.istore 4, 2) := by decide +kernel
theorem dX12_alike_54 : decode cX12_alike 54 = .ok (.iconst 0, 1) := by decide +kernel
theorem dX12_alike_55 : decode cX12_alike 55 = .ok (.istore 5, 2) := by decide +kernel
theorem dX12_alike_57 : decode cX12_alike 57 = .ok (.iload 5, 2) := by decide +kernel
theorem dX12_alike_59 : decode cX12_alike 59 = .ok (.aload_n 0, 1) := by decide +kernel
theorem dX12_alike_60 : decode cX12_alike 60 = .ok (.getfield 48, 3) := by decide +kernel
theorem dX12_alike_63 : decode cX12_alike 63 = .ok (.iload_n 1, 1) := by decide +kernel
theorem dX12_alike_64 : decode cX12_alike 64 = .ok (.iaload, 1) := by decide +kernel
theorem dX12_alike_65 : decode cX12_alike 65 = .ok (.if_icmp .ge 94, 3) := by decide +kernel
theorem dX12_alike_68 : decode cX12_alike 68 = .ok (.iconst 0, 1) := by decide +kernel
theorem dX12_alike_69 : decode cX12_alike 69 = .ok (.istore 6, 2) := by decide +kernel
theorem dX12_alike_71 : decode cX12_alike 71 = .ok (.iconst 0, 1) := by decide +kernel
theorem dX12_alike_72 : decode cX12_alike 72 = .ok (.istore 7, 2) := by decide +kernel
theorem dX12_alike_74 : decode cX12_alike 74 = .ok (.iload 7, 2) := by decide +kernel
theorem dX12_alike_76 : decode cX12_alike 76 = .ok (.aload_n 0, 1) := by decide +kernel
theorem dX12_alike_77 : decode cX12_alike 77 = .ok (.getfield 48, 3) := by decide +kernel
theorem dX12_alike_80 : decode cX12_alike 80 = .ok (.iload_n 2, 1) := by decide +kernel
theorem dX12_alike_81 : decode cX12_alike 81 = .ok (.iaload, 1) := by decide +kernel
theorem dX12_alike_82 : decode cX12_alike 82 = .ok (.if_icmp .ge 56, 3) := by decide +kernel
theorem dX12_alike_85 : decode cX12_alike 85 = .ok (.iload 6, 2) := by decide +kernel
theorem dX12_alike_87 : decode cX12_alike 87 = .ok (.ifCond .ne 38, 3) := by decide +kernel
theorem dX12_alike_90 : decode cX12_alike 90 = .ok (.aload_n 0, 1) := by decide +kernel
theorem dX12_alike_91 : decode cX12_alike 91 = .ok (.iload_n 1, 1) := by decide +kernel
theorem dX12_alike_92 : decode cX12_alike 92 = .ok (.iconst 0, 1) := by decide +kernel
theorem dX12_alike_93 : decode cX12_alike 93 = .ok (.aload_n 0, 1) := by decide +kernel
theorem dX12_alike_94 : decode cX12_alike 94 = .ok (.getfield 48, 3) := by decide +kernel
theorem dX12_alike_97 : decode cX12_alike 97 = .ok (.iload_n 1, 1) := by decide +kernel
theorem dX12_alike_98 : decode cX12_alike 98 = .ok (.iaload, 1) := by decide +kernel
theorem dX12_alike_99 : decode cX12_alike 99 = .ok (.iload 5, 2) := by decide +kernel
theorem dX12_alike_101 : decode cX12_alike 101 = .ok (.bipush 50, 2) := by decide +kernel
theorem dX12_alike_103 : decode cX12_alike 103 = .ok (.invokevirtual 289, 3) := by decide +kernel
theorem dX12_alike_106 : decode cX12_alike 106 = .ok (.aload_n 0, 1) := by decide +kernel
theorem dX12_alike_107 : decode cX12_alike 107 = .ok (.iload_n 2, 1) := by decide +kernel
theorem dX12_alike_108 : decode cX12_alike 108 = .ok (.iconst 0, 1) := by decide +kernel
theorem dX12_alike_109 : decode cX12_alike 109 = .ok (.aload_n 0, 1) := by decide +kernel
theorem dX12_alike_110 : decode cX12_alike 110 = .ok (.getfield 48, 3) := by decide +kernel
theorem dX12_alike_113 : decode cX12_alike 113 = .ok (.iload_n 2, 1) := by decide +kernel
theorem dX12_alike_114 : decode cX12_alike 114 = .ok (.iaload, 1) := by decide +kernel
theorem dX12_alike_115 : decode cX12_alike 115 = .ok (.iload 7, 2) := by decide +kernel
theorem dX12_alike_117 : decode cX12_alike 117 = .ok (.bipush 50, 2) := by decide +kernel
theorem dX12_alike_119 : decode cX12_alike 119 = .ok (.invokevirtual 289, 3) := by decide +kernel
theorem dX12_alike_122 : decode cX12_alike 122 = .ok (.if_icmp .ne 7, 3) := by decide +kernel
theorem dX12_alike_125 : decode cX12_alike 125 = .ok (.iconst 1, 1) := by decide +kernel
theorem dX12_alike_126 : decode cX12_alike 126 = .ok (.goto 4, 3) := by decide +kernel
theorem dX12_alike_129 : decode cX12_alike 129 = .ok (.iconst 0, 1) := by decide +kernel
theorem dX12_alike_130 : decode cX12_alike 130 = .ok (.istore 6, 2) := by decide +kernel
theorem dX12_alike_132 : decode cX12_alike 132 = .ok (.iinc 7 1, 3) := by decide +kernel
theorem dX12_alike_135 : decode cX12_alike 135 = .ok (.goto (-61), 3) := by decide +kernel
theorem dX12_alike_138 : decode cX12_alike 138 = .ok (.iload 4, 2) := by decide +kernel
theorem dX12_alike_140 : decode cX12_alike 140 = .ok (.iload 6, 2) := by decide +kernel
theorem dX12_alike_142 : decode cX12_alike 142 = .ok (.ifCond .eq 7, 3) := by decide +kernel
theorem dX12_alike_145 : decode cX12_alike 145 = .ok (.iconst 1, 1) := by decide +kernel
theorem dX12_alike_146 : decode cX12_alike 146 = .ok (.goto 4, 3) := by decide +kernel
theorem dX12_alike_149 : decode cX12_alike 149 = .ok (.iconst 0, 1) := by decide +kernel
theorem dX12_alike_150 : decode cX12_alike 150 = .ok (.iadd, 1) := by decide +kernel
theorem dX12_alike_151 : decode cX12_alike 151 = .ok (.istore 4, 2) := by decide +kernel
theorem dX12_alike_153 : decode cX12_alike 153 = .ok (.iinc 5 1, 3) := by decide +kernel
theorem dX12_alike_156 : decode cX12_alike 156 = .ok (.goto (-99), 3) := by decide +kernel
theorem dX12_alike_159 : decode cX12_alike 159 = .ok (.iload 4, 2) := by decide +kernel
theorem dX12_alike_161 : decode cX12_alike 161 = .ok (.ireturn, 1) := by decide +kernel
theorem dX12_alike_162 : decode cX12_alike 162 = .ok (.aload_n 0, 1) := by decide +kernel
theorem dX12_alike_163 : decode cX12_alike 163 = .ok (.getfield 48, 3) := by decide +kernel
theorem dX12_alike_166 : decode cX12_alike 166 = .ok (.iload_n 1, 1) := by decide +kernel
theorem dX12_alike_167 : decode cX12_alike 167 = .ok (.iaload, 1) := by decide +kernel
theorem dX12_alike_168 : decode cX12_alike 168 = .ok (.aload_n 0, 1) := by decide +kernel
theorem dX12_alike_169 : decode cX12_alike 169 = .ok (.getfield 48, 3) := by decide +kernel
theorem dX12_alike_172 : decode cX12_alike 172 = .ok (.iload_n 2, 1) := by decide +kernel
theorem dX12_alike_173 : decode cX12_alike 173 = .ok (.iaload, 1) := by decide +kernel
theorem dX12_alike_174 : decode cX12_alike 174 = .ok (.if_icmp .eq 5, 3) := by decide +kernel
theorem dX12_alike_177 : decode cX12_alike 177 = .ok (.iconst 0, 1) := by decide +kernel
theorem dX12_alike_178 : decode cX12_alike 178 = .ok (.ireturn, 1) := by decide +kernel
theorem dX12_alike_179 : decode cX12_alike 179 = .ok (.iload_n 3, 1) := by decide +kernel
theorem dX12_alike_180 : decode cX12_alike 180 = .ok (.iconst 1, 1) := by decide +kernel
theorem dX12_alike_181 : decode cX12_alike 181 = .ok (.if_icmp .ne 18, 3) := by decide +kernel
theorem dX12_alike_184 : decode cX12_alike 184 = .ok (.aload_n 0, 1) := by decide +kernel
theorem dX12_alike_185 : decode cX12_alike 185 = .ok (.iload_n 1, 1) := by decide +kernel
theorem dX12_alike_186 : decode cX12_alike 186 = .ok (.iload_n 2, 1) := by decide +kernel
theorem dX12_alike_187 : decode cX12_alike 187 = .ok (.invokevirtual 296, 3) := by decide +kernel
theorem dX12_alike_190 : decode cX12_alike 190 = .ok (.ifCond .eq 7, 3) := by decide +kernel
theorem dX12_alike_193 : decode cX12_alike 193 = .ok (.iconst 1, 1) := by decide +kernel
theorem dX12_alike_194 : decode cX12_alike 194 = .ok (.goto 4, 3) := by decide +kernel
theorem dX12_alike_197 : decode cX12_alike 197 = .ok (.iconst 0, 1) := by decide +kernel
theorem dX12_alike_198 : decode cX12_alike 198 = .ok (.ireturn, 1) := by decide +kernel
theorem dX12_alike_199 : decode cX12_alike 199 = .ok (.iconst 1, 1) := by decide +kernel
theorem dX12_alike_200 : decode cX12_alike 200 = .ok (.istore 4, 2) := by decide +kernel
theorem dX12_alike_202 : decode cX12_alike 202 = .ok (.aload_n 0, 1) := by decide +kernel
theorem dX12_alike_203 : decode cX12_alike 203 = .ok (.iload_n 1, 1) := by decide +kernel
theorem dX12_alike_204 : decode cX12_alike 204 = .ok (.iconst 0, 1) := by decide +kernel
theorem dX12_alike_205 : decode cX12_alike 205 = .ok (.invokevirtual 275, 3) := by decide +kernel
theorem dX12_alike_208 : decode cX12_alike 208 = .ok (.iconst 0, 1) := by decide +kernel
theorem dX12_alike_209 : decode cX12_alike 209 = .ok (.istore 5, 2) := by decide +kernel
theorem dX12_alike_211 : decode cX12_alike 211 = .ok (.iload 5, 2) := by decide +kernel
theorem dX12_alike_213 : decode cX12_alike 213 = .ok (.aload_n 0, 1) := by decide +kernel
theorem dX12_alike_214 : decode cX12_alike 214 = .ok (.getfield 48, 3) := by decide +kernel
theorem dX12_alike_217 : decode cX12_alike 217 = .ok (.iload_n 1, 1) := by decide +kernel
theorem dX12_alike_218 : decode cX12_alike 218 = .ok (.iaload, 1) := by decide +kernel
theorem dX12_alike_219 : decode cX12_alike 219 = .ok (.if_icmp .gt 33, 3) := by decide +kernel
theorem dX12_alike_222 : decode cX12_alike 222 = .ok (.aload_n 0, 1) := by decide +kernel
theorem dX12_alike_223 : decode cX12_alike 223 = .ok (.getfield 78, 3) := by decide +kernel
theorem dX12_alike_226 : decode cX12_alike 226 = .ok (.iload 5, 2) := by decide +kernel
theorem dX12_alike_228 : decode cX12_alike 228 = .ok (.aload_n 0, 1) := by decide +kernel
theorem dX12_alike_229 : decode cX12_alike 229 = .ok (.getfield 75, 3) := by decide +kernel
theorem dX12_alike_232 : decode cX12_alike 232 = .ok (.bipush 6, 2) := by decide +kernel
theorem dX12_alike_234 : decode cX12_alike 234 = .ok (.aload_n 0, 1) := by decide +kernel
theorem dX12_alike_235 : decode cX12_alike 235 = .ok (.getfield 48, 3) := by decide +kernel
theorem dX12_alike_238 : decode cX12_alike 238 = .ok (.iload_n 1, 1) := by decide +kernel
theorem dX12_alike_239 : decode cX12_alike 239 = .ok (.iaload, 1) := by decide +kernel
theorem dX12_alike_240 : decode cX12_alike 240 = .ok (.imul, 1) := by decide +kernel
theorem dX12_alike_241 : decode cX12_alike 241 = .ok (.iload 5, 2) := by decide +kernel
theorem dX12_alike_243 : decode cX12_alike 243 = .ok (.iadd, 1) := by decide +kernel
theorem dX12_alike_244 : decode cX12_alike 244 = .ok (.laload, 1) := by decide +kernel
theorem dX12_alike_245 : decode cX12_alike 245 = .ok (.lastore, 1) := by decide +kernel
theorem dX12_alike_246 : decode cX12_alike 246 = .ok (.iinc 5 1, 3) := by decide +kernel
theorem dX12_alike_249 : decode cX12_alike 249 = .ok (.goto (-38), 3) := by decide +kernel
theorem dX12_alike_252 : decode cX12_alike 252 = .ok (.aload_n 0, 1) := by decide +kernel
theorem dX12_alike_253 : decode cX12_alike 253 = .ok (.iload_n 2, 1) := by decide +kernel
theorem dX12_alike_254 : decode cX12_alike 254 = .ok (.iconst 0, 1) := by decide +kernel
theorem dX12_alike_255 : decode cX12_alike 255 = .ok (.invokevirtual 275, 3) := by decide +kernel
theorem dX12_alike_258 : decode cX12_alike 258 = .ok (.iconst 0, 1) := by decide +kernel
theorem dX12_alike_259 : decode cX12_alike 259 = .ok (.istore 5, 2) := by decide +kernel
theorem dX12_alike_261 : decode cX12_alike 261 = .ok (.iload 5, 2) := by decide +kernel
theorem dX12_alike_263 : decode cX12_alike 263 = .ok (.aload_n 0, 1) := by decide +kernel
theorem dX12_alike_264 : decode cX12_alike 264 = .ok (.getfield 48, 3) := by decide +kernel
theorem dX12_alike_267 : decode cX12_alike 267 = .ok (.iload_n 1, 1) := by decide +kernel
theorem dX12_alike_268 : decode cX12_alike 268 = .ok (.iaload, 1) := by decide +kernel
theorem dX12_alike_269 : decode cX12_alike 269 = .ok (.if_icmp .gt 49, 3) := by decide +kernel
theorem dX12_alike_272 : decode cX12_alike 272 = .ok (.iload 4, 2) := by decide +kernel
theorem dX12_alike_274 : decode cX12_alike 274 = .ok (.ifCond .eq 35, 3) := by decide +kernel
theorem dX12_alike_277 : decode cX12_alike 277 = .ok (.aload_n 0, 1) := by decide +kernel
theorem dX12_alike_278 : decode cX12_alike 278 = .ok (.getfield 78, 3) := by decide +kernel
theorem dX12_alike_281 : decode cX12_alike 281 = .ok (.iload 5, 2) := by decide +kernel
theorem dX12_alike_283 : decode cX12_alike 283 = .ok (.laload, 1) := by decide +kernel
theorem dX12_alike_284 : decode cX12_alike 284 = .ok (.aload_n 0, 1) := by decide +kernel
theorem dX12_alike_285 : decode cX12_alike 285 = .ok (.getfield 75, 3) := by decide +kernel
theorem dX12_alike_288 : decode cX12_alike 288 = .ok (.bipush 6, 2) := by decide +kernel
theorem dX12_alike_290 : decode cX12_alike 290 = .ok (.aload_n 0, 1) := by decide +kernel
theorem dX12_alike_291 : decode cX12_alike 291 = .ok (.getfield 48, 3) := by decide +kernel
theorem dX12_alike_294 : decode cX12_alike 294 = .ok (.iload_n 1, 1) := by decide +kernel
theorem dX12_alike_295 : decode cX12_alike 295 = .ok (.iaload, 1) := by decide +kernel
theorem dX12_alike_296 : decode cX12_alike 296 = .ok (.imul, 1) := by decide +kernel
theorem dX12_alike_297 : decode cX12_alike 297 = .ok (.iload 5, 2) := by decide +kernel
theorem dX12_alike_299 : decode cX12_alike 299 = .ok (.iadd, 1) := by decide +kernel
theorem dX12_alike_300 : decode cX12_alike 300 = .ok (.laload, 1) := by decide +kernel
theorem dX12_alike_301 : decode cX12_alike 301 = .ok (.lcmp, 1) := by decide +kernel
theorem dX12_alike_302 : decode cX12_alike 302 = .ok (.ifCond .ne 7, 3) := by decide +kernel
theorem dX12_alike_305 : decode cX12_alike 305 = .ok (.iconst 1, 1) := by decide +kernel
theorem dX12_alike_306 : decode cX12_alike 306 = .ok (.goto 4, 3) := by decide +kernel
theorem dX12_alike_309 : decode cX12_alike 309 = .ok (.iconst 0, 1) := by decide +kernel
theorem dX12_alike_310 : decode cX12_alike 310 = .ok (.istore 4, 2) := by decide +kernel
theorem dX12_alike_312 : decode cX12_alike 312 = .ok (.iinc 5 1, 3) := by decide +kernel
theorem dX12_alike_315 : decode cX12_alike 315 = .ok (.goto (-54), 3) := by decide +kernel
theorem dX12_alike_318 : decode cX12_alike 318 = .ok (.iload 4, 2) := by decide +kernel
theorem dX12_alike_320 : decode cX12_alike 320 = .ok (.ifCond .eq 7, 3) := by decide +kernel
theorem dX12_alike_323 : decode cX12_alike 323 = .ok (.iconst 1, 1) := by decide +kernel
theorem dX12_alike_324 : decode cX12_alike 324 = .ok (.goto 4, 3) := by decide +kernel
theorem dX12_alike_327 : decode cX12_alike 327 = .ok (.iconst 0, 1) := by decide +kernel
theorem dX12_alike_328 : decode cX12_alike 328 = .ok (.ireturn, 1) := by decide +kernel
theorem dX12_isTurned_0 : decode cX12_isTurned 0 = .ok (.iconst 1, 1) := by decide +kernel
theorem dX12_isTurned_1 : decode cX12_isTurned 1 = .ok (.istore_n 3, 1) := by decide +kernel
theorem dX12_isTurned_2 : decode cX12_isTurned 2 = .ok (.aload_n 0, 1) := by decide +kernel
theorem dX12_isTurned_3 : decode cX12_isTurned 3 = .ok (.getfield 48, 3) := by decide +kernel
theorem dX12_isTurned_6 : decode cX12_isTurned 6 = .ok (.iload_n 1, 1) := by decide +kernel
theorem dX12_isTurned_7 : decode cX12_isTurned 7 = .ok (.iaload, 1) := by decide +kernel
theorem dX12_isTurned_8 : decode cX12_isTurned 8 = .ok (.istore 4, 2) := by decide +kernel
theorem dX12_isTurned_10 : decode cX12_isTurned 10 = .ok (.iconst 0, 1) := by decide +kernel
theorem dX12_isTurned_11 : decode cX12_isTurned 11 = .ok (.istore 5, 2) := by decide +kernel
theorem dX12_isTurned_13 : decode cX12_isTurned 13 = .ok (.iload 5, 2) := by decide +kernel
theorem dX12_isTurned_15 : decode cX12_isTurned 15 = .ok (.iload 4, 2) := by decide +kernel
theorem dX12_isTurned_17 : decode cX12_isTurned 17 = .ok (.if_icmp .ge 41, 3) := by decide +kernel
theorem dX12_isTurned_20 : decode cX12_isTurned 20 = .ok (.iload_n 3, 1) := by decide +kernel
theorem dX12_isTurned_21 : decode cX12_isTurned 21 = .ok (.ifCond .eq 29, 3) := by decide +kernel
theorem dX12_isTurned_24 : decode cX12_isTurned 24 = .ok (.aload_n 0, 1) := by decide +kernel
theorem dX12_isTurned_25 : decode cX12_isTurned 25 = .ok (.iload_n 1, 1) := by decide +kernel
theorem dX12_isTurned_26 : decode cX12_isTurned 26 = .ok (.iload 5, 2) := by decide +kernel
theorem dX12_isTurned_28 : decode cX12_isTurned 28 = .ok (.invokevirtual 256, 3) := by decide +kernel
theorem dX12_isTurned_31 : decode cX12_isTurned 31 = .ok (.aload_n 0, 1) := by decide +kernel
theorem dX12_isTurned_32 : decode cX12_isTurned 32 = .ok (.iload_n 2, 1) := by decide +kernel
theorem dX12_isTurned_33 : decode cX12_isTurned 33 = .ok (.iload 4, 2) := by decide +kernel
theorem dX12_isTurned_35 : decode cX12_isTurned 35 = .ok (.iconst 1, 1) := by decide +kernel
theorem dX12_isTurned_36 : decode cX12_isTurned 36 = .ok (.isub, 1) := by decide +kernel
theorem dX12_isTurned_37 : decode cX12_isTurned 37 = .ok (.iload 5, 2) := by decide +kernel
theorem dX12_isTurned_39 : decode cX12_isTurned 39 = .ok (.isub, 1) := by decide +kernel
theorem dX12_isTurned_40 : decode cX12_isTurned 40 = .ok (.invokevirtual 256, 3) := by decide +kernel
theorem dX12_isTurned_43 : decode cX12_isTurned 43 = .ok (.if_icmp .ne 7, 3) := by decide +kernel
theorem dX12_isTurned_46 : decode cX12_isTurned 46 = .ok (.iconst 1, 1) := by decide +kernel
theorem dX12_isTurned_47 : decode cX12_isTurned 47 = .ok (.goto 4, 3) := by decide +kernel
theorem dX12_isTurned_50 : decode cX12_isTurned 50 = .ok (.iconst 0, 1) := by decide +kernel
theorem dX12_isTurned_51 : decode cX12_isTurned 51 = .ok (.istore_n 3, 1) := by decide +kernel
theorem dX12_isTurned_52 : decode cX12_isTurned 52 = .ok (.iinc 5 1, 3) := by decide +kernel
theorem dX12_isTurned_55 : decode cX12_isTurned 55 = .ok (.goto (-42), 3) := by decide +kernel
theorem dX12_isTurned_58 : decode cX12_isTurned 58 = .ok (.iconst 0, 1) := by decide +kernel
theorem dX12_isTurned_59 : decode cX12_isTurned 59 = .ok (.istore 5, 2) := by decide +kernel
theorem dX12_isTurned_61 : decode cX12_isTurned 61 = .ok (.iload 5, 2) := by decide +kernel
theorem dX12_isTurned_63 : decode cX12_isTurned 63 = .ok (.iload 4, 2) := by decide +kernel
theorem dX12_isTurned_65 : decode cX12_isTurned 65 = .ok (.iconst 1, 1) := by decide +kernel
theorem dX12_isTurned_66 : decode cX12_isTurned 66 = .ok (.isub, 1) := by decide +kernel
theorem dX12_isTurned_67 : decode cX12_isTurned 67 = .ok (.if_icmp .ge 41, 3) := by decide +kernel
theorem dX12_isTurned_70 : decode cX12_isTurned 70 = .ok (.iload_n 3, 1) := by decide +kernel
theorem dX12_isTurned_71 : decode cX12_isTurned 71 = .ok (.ifCond .eq 29, 3) := by decide +kernel
theorem dX12_isTurned_74 : decode cX12_isTurned 74 = .ok (.aload_n 0, 1) := by decide +kernel
theorem dX12_isTurned_75 : decode cX12_isTurned 75 = .ok (.iload_n 1, 1) := by decide +kernel
theorem dX12_isTurned_76 : decode cX12_isTurned 76 = .ok (.iload 5, 2) := by decide +kernel
theorem dX12_isTurned_78 : decode cX12_isTurned 78 = .ok (.invokevirtual 260, 3) := by decide +kernel
theorem dX12_isTurned_81 : decode cX12_isTurned 81 = .ok (.aload_n 0, 1) := by decide +kernel
theorem dX12_isTurned_82 : decode cX12_isTurned 82 = .ok (.iload_n 2, 1) := by decide +kernel
theorem dX12_isTurned_83 : decode cX12_isTurned 83 = .ok (.iload 4, 2) := by decide +kernel
theorem dX12_isTurned_85 : decode cX12_isTurned 85 = .ok (.iconst 2, 1) := by decide +kernel
theorem dX12_isTurned_86 : decode cX12_isTurned 86 = .ok (.isub, 1) := by decide +kernel
theorem dX12_isTurned_87 : decode cX12_isTurned 87 = .ok (.iload 5, 2) := by decide +kernel
theorem dX12_isTurned_89 : decode cX12_isTurned 89 = .ok (.isub, 1) := by decide +kernel
theorem dX12_isTurned_90 : decode cX12_isTurned 90 = .ok (.invokevirtual 260, 3) := by decide +kernel
theorem dX12_isTurned_93 : decode cX12_isTurned 93 = .ok (.if_icmp .ne 7, 3) := by decide +kernel
theorem dX12_isTurned_96 : decode cX12_isTurned 96 = .ok (.iconst 1, 1) := by decide +kernel
theorem dX12_isTurned_97 : decode cX12_isTurned 97 = .ok (.goto 4, 3) := by decide +kernel
theorem dX12_isTurned_100 : decode cX12_isTurned 100 = .ok (.iconst 0, 1) := by decide +kernel
theorem dX12_isTurned_101 : decode cX12_isTurned 101 = .ok (.istore_n 3, 1) := by decide +kernel
theorem dX12_isTurned_102 : decode cX12_isTurned 102 = .ok (.iinc 5 1, 3) := by decide +kernel
theorem dX12_isTurned_105 : decode cX12_isTurned 105 = .ok (.goto (-44), 3) := by decide +kernel
theorem dX12_isTurned_108 : decode cX12_isTurned 108 = .ok (.iload_n 3, 1) := by decide +kernel
theorem dX12_isTurned_109 : decode cX12_isTurned 109 = .ok (.ireturn, 1) := by decide +kernel
theorem dX12_between_0 : decode cX12_between 0 = .ok (.iload_n 1, 1) := by decide +kernel
theorem dX12_between_1 : decode cX12_between 1 = .ok (.invokestatic 253, 3) := by decide +kernel
theorem dX12_between_4 : decode cX12_between 4 = .ok (.ifCond .eq 20, 3) := by decide +kernel
theorem dX12_between_7 : decode cX12_between 7 = .ok (.iload_n 2, 1) := by decide +kernel
theorem dX12_between_8 : decode cX12_between 8 = .ok (.invokestatic 253, 3) := by decide +kernel
theorem dX12_between_11 : decode cX12_between 11 = .ok (.ifCond .eq 13, 3) := by decide +kernel
theorem dX12_between_14 : decode cX12_between 14 = .ok (.iload_n 3, 1) := by decide +kernel
theorem dX12_between_15 : decode cX12_between 15 = .ok (.iconst 1, 1) := by decide +kernel
theorem dX12_between_16 : decode cX12_between 16 = .ok (.bipush 50, 2) := by decide +kernel
theorem dX12_between_18 : decode cX12_between 18 = .ok (.invokestatic 134, 3) := by decide +kernel
theorem dX12_between_21 : decode cX12_between 21 = .ok (.ifCond .ne 5, 3) := by decide +kernel
theorem dX12_between_24 : decode cX12_between 24 = .ok (.iconst (-1), 1) := by decide +kernel
theorem dX12_between_25 : decode cX12_between 25 = .ok (.ireturn, 1) := by decide +kernel
theorem dX12_between_26 : decode cX12_between 26 = .ok (.aload_n 0, 1) := by decide +kernel
theorem dX12_between_27 : decode cX12_between 27 = .ok (.getfield 48, 3) := by decide +kernel
theorem dX12_between_30 : decode cX12_between 30 = .ok (.iload_n 1, 1) := by decide +kernel
theorem dX12_between_31 : decode cX12_between 31 = .ok (.iaload, 1) := by decide +kernel
theorem dX12_between_32 : decode cX12_between 32 = .ok (.ifCond .eq 12, 3) := by decide +kernel
theorem dX12_between_35 : decode cX12_between 35 = .ok (.aload_n 0, 1) := by decide +kernel
theorem dX12_between_36 : decode cX12_between 36 = .ok (.getfield 48, 3) := by decide +kernel
theorem dX12_between_39 : decode cX12_between 39 = .ok (.iload_n 2, 1) := by decide +kernel
theorem dX12_between_40 : decode cX12_between 40 = .ok (.iaload, 1) := by decide +kernel
theorem dX12_between_41 : decode cX12_between 41 = .ok (.ifCond .ne 6, 3) := by decide +kernel
theorem dX12_between_44 : decode cX12_between 44 = .ok (.bipush (-2), 2) := by decide +kernel
theorem dX12_between_46 : decode cX12_between 46 = .ok (.ireturn, 1) := by decide +kernel
theorem dX12_between_47 : decode cX12_between 47 = .ok (.aload_n 0, 1) := by decide +kernel
theorem dX12_between_48 : decode cX12_between 48 = .ok (.getfield 48, 3) := by decide +kernel
theorem dX12_between_51 : decode cX12_between 51 = .ok (.iload_n 2, 1) := by decide +kernel
theorem dX12_between_52 : decode cX12_between 52 = .ok (.iaload, 1) := by decide +kernel
theorem dX12_between_53 : decode cX12_between 53 = .ok (.aload_n 0, 1) := by decide +kernel
theorem dX12_between_54 : decode cX12_between 54 = .ok (.getfield 48, 3) := by decide +kernel
theorem dX12_between_57 : decode cX12_between 57 = .ok (.iload_n 1, 1) := by decide +kernel
theorem dX12_between_58 : decode cX12_between 58 = .ok (.iaload, 1) := by decide +kernel
theorem dX12_between_59 : decode cX12_between 59 = .ok (.iconst 1, 1) := by decide +kernel
theorem dX12_between_60 : decode cX12_between 60 = .ok (.isub, 1) := by decide +kernel
theorem dX12_between_61 : decode cX12_between 61 = .ok (.if_icmp .eq 6, 3) := by decide +kernel
theorem dX12_between_64 : decode cX12_between 64 = .ok (.bipush (-3), 2) := by decide +kernel
theorem dX12_between_66 : decode cX12_between 66 = .ok (.ireturn, 1) := by decide +kernel
theorem dX12_between_67 : decode cX12_between 67 = .ok (.iconst 1, 1) := by decide +kernel
theorem dX12_between_68 : decode cX12_between 68 = .ok (.istore 4, 2) := by decide +kernel
theorem dX12_between_70 : decode cX12_between 70 = .ok (.iconst 0, 1) := by decide +kernel
theorem dX12_between_71 : decode cX12_between 71 = .ok (.istore 5, 2) := by decide +kernel
theorem dX12_between_73 : decode cX12_between 73 = .ok (.iload 5, 2) := by decide +kernel
theorem dX12_between_75 : decode cX12_between 75 = .ok (.aload_n 0, 1) := by decide +kernel
theorem dX12_between_76 : decode cX12_between 76 = .ok (.getfield 48, 3) := by decide +kernel
theorem dX12_between_79 : decode cX12_between 79 = .ok (.iload_n 2, 1) := by decide +kernel
theorem dX12_between_80 : decode cX12_between 80 = .ok (.iaload, 1) := by decide +kernel
theorem dX12_between_81 : decode cX12_between 81 = .ok (.if_icmp .ge 80, 3) := by decide +kernel
theorem dX12_between_84 : decode cX12_between 84 = .ok (.aload_n 0, 1) := by decide +kernel
theorem dX12_between_85 : decode cX12_between 85 = .ok (.iload_n 2, 1) := by decide +kernel
theorem dX12_between_86 : decode cX12_between 86 = .ok (.iconst 0, 1) := by decide +kernel
theorem dX12_between_87 : decode cX12_between 87 = .ok (.aload_n 0, 1) := by decide +kernel
theorem dX12_between_88 : decode cX12_between 88 = .ok (.getfield 48, 3) := by decide +kernel
theorem dX12_between_91 : decode cX12_between 91 = .ok (.iload_n 2, 1) := by decide +kernel
theorem dX12_between_92 : decode cX12_between 92 = .ok (.iaload, 1) := by decide +kernel
theorem dX12_between_93 : decode cX12_between 93 = .ok (.iload 5, 2) := by decide +kernel
theorem dX12_between_95 : decode cX12_between 95 = .ok (.iload_n 3, 1) := by decide +kernel
theorem dX12_between_96 : decode cX12_between 96 = .ok (.invokevirtual 289, 3) := by decide +kernel
theorem dX12_between_99 : decode cX12_between 99 = .ok (.istore 6, 2) := by decide +kernel
theorem dX12_between_101 : decode cX12_between 101 = .ok (.iload 4, 2) := by decide +kernel
theorem dX12_between_103 : decode cX12_between 103 = .ok (.ifCond .eq 49, 3) := by decide +kernel
theorem dX12_between_106 : decode cX12_between 106 = .ok (.iload 6, 2) := by decide +kernel
theorem dX12_between_108 : decode cX12_between 108 = .ok (.aload_n 0, 1) := by decide +kernel
theorem dX12_between_109 : decode cX12_between 109 = .ok (.iload_n 1, 1) := by decide +kernel
theorem dX12_between_110 : decode cX12_between 110 = .ok (.iconst 0, 1) := by decide +kernel
theorem dX12_between_111 : decode cX12_between 111 = .ok (.aload_n 0, 1) := by decide +kernel
theorem dX12_between_112 : decode cX12_between 112 = .ok (.getfield 48, 3) := by decide +kernel
theorem dX12_between_115 : decode cX12_between 115 = .ok (.iload_n 1, 1) := by decide +kernel
theorem dX12_between_116 : decode cX12_between 116 = .ok (.iaload, 1) := by decide +kernel
theorem dX12_between_117 : decode cX12_between 117 = .ok (.iload 5, 2) := by decide +kernel
theorem dX12_between_119 : decode cX12_between 119 = .ok (.iload_n 3, 1) := by decide +kernel
theorem dX12_between_120 : decode cX12_between 120 = .ok (.invokevirtual 289, 3) := by decide +kernel
theorem dX12_between_123 : decode cX12_between 123 = .ok (.if_icmp .lt 29, 3) := by decide +kernel
theorem dX12_between_126 : decode cX12_between 126 = .ok (.iload 6, 2) := by decide +kernel
theorem dX12_between_128 : decode cX12_between 128 = .ok (.aload_n 0, 1) := by decide +kernel
theorem dX12_between_129 : decode cX12_between 129 = .ok (.iload_n 1, 1) := by decide +kernel
theorem dX12_between_130 : decode cX12_between 130 = .ok (.iconst 0, 1) := by decide +kernel
theorem dX12_between_131 : decode cX12_between 131 = .ok (.aload_n 0, 1) := by decide +kernel
theorem dX12_between_132 : decode cX12_between 132 = .ok (.getfield 48, 3) := by decide +kernel
theorem dX12_between_135 : decode cX12_between 135 = .ok (.iload_n 1, 1) := by decide +kernel
theorem dX12_between_136 : decode cX12_between 136 = .ok (.iaload, 1) := by decide +kernel
theorem dX12_between_137 : decode cX12_between 137 = .ok (.iload 5, 2) := by decide +kernel
theorem dX12_between_139 : decode cX12_between 139 = .ok (.iconst 1, 1) := by decide +kernel
theorem dX12_between_140 : decode cX12_between 140 = .ok (.iadd, 1) := by decide +kernel
theorem dX12_between_141 : decode cX12_between 141 = .ok (.iload_n 3, 1) := by decide +kernel
theorem dX12_between_142 : decode cX12_between 142 = .ok (.invokevirtual 289, 3) := by decide +kernel
theorem dX12_between_145 : decode cX12_between 145 = .ok (.if_icmp .gt 7, 3) := by decide +kernel
theorem dX12_between_148 : decode cX12_between 148 = .ok (.iconst 1, 1) := by decide +kernel
theorem dX12_between_149 : decode cX12_between 149 = .ok (.goto 4, 3) := by decide +kernel
theorem dX12_between_152 : decode cX12_between 152 = .ok (.iconst 0, 1) := by decide +kernel
theorem dX12_between_153 : decode cX12_between 153 = .ok (.istore 4, 2) := by decide +kernel
theorem dX12_between_155 : decode cX12_between 155 = .ok (.iinc 5 1, 3) := by decide +kernel
theorem dX12_between_158 : decode cX12_between 158 = .ok (.goto (-85), 3) := by decide +kernel
theorem dX12_between_161 : decode cX12_between 161 = .ok (.iload 4, 2) := by decide +kernel
theorem dX12_between_163 : decode cX12_between 163 = .ok (.ifCond .eq 7, 3) := by decide +kernel
theorem dX12_between_166 : decode cX12_between 166 = .ok (.iconst 1, 1) := by decide +kernel
theorem dX12_between_167 : decode cX12_between 167 = .ok (.goto 4, 3) := by decide +kernel
theorem dX12_between_170 : decode cX12_between 170 = .ok (.iconst 0, 1) := by decide +kernel
theorem dX12_between_171 : decode cX12_between 171 = .ok (.ireturn, 1) := by decide +kernel
theorem dX12_swaps_0 : decode cX12_swaps 0 = .ok (.aload_n 1, 1) := by decide +kernel
theorem dX12_swaps_1 : decode cX12_swaps 1 = .ok (.iload_n 2, 1) := by decide +kernel
theorem dX12_swaps_2 : decode cX12_swaps 2 = .ok (.iaload, 1) := by decide +kernel
theorem dX12_swaps_3 : decode cX12_swaps 3 = .ok (.istore 4, 2) := by decide +kernel
theorem dX12_swaps_5 : decode cX12_swaps 5 = .ok (.aload_n 1, 1) := by decide +kernel
theorem dX12_swaps_6 : decode cX12_swaps 6 = .ok (.iload_n 2, 1) := by decide +kernel
theorem dX12_swaps_7 : decode cX12_swaps 7 = .ok (.aload_n 1, 1) := by decide +kernel
theorem dX12_swaps_8 : decode cX12_swaps 8 = .ok (.iload_n 3, 1) := by decide +kernel
theorem dX12_swaps_9 : decode cX12_swaps 9 = .ok (.iaload, 1) := by decide +kernel
theorem dX12_swaps_10 : decode cX12_swaps 10 = .ok (.iastore, 1) := by decide +kernel
theorem dX12_swaps_11 : decode cX12_swaps 11 = .ok (.aload_n 1, 1) := by decide +kernel
theorem dX12_swaps_12 : decode cX12_swaps 12 = .ok (.iload_n 3, 1) := by decide +kernel
theorem dX12_swaps_13 : decode cX12_swaps 13 = .ok (.iload 4, 2) := by decide +kernel
theorem dX12_swaps_15 : decode cX12_swaps 15 = .ok (.iastore, 1) := by decide +kernel
theorem dX12_swaps_16 : decode cX12_swaps 16 = .ok (.return_, 1) := by decide +kernel
theorem dX12_change_0 : decode cX12_change 0 = .ok (.iload_n 1, 1) := by decide +kernel
theorem dX12_change_1 : decode cX12_change 1 = .ok (.invokestatic 253, 3) := by decide +kernel
theorem dX12_change_4 : decode cX12_change 4 = .ok (.ifCond .eq 12, 3) := by decide +kernel
theorem dX12_change_7 : decode cX12_change 7 = .ok (.iload_n 2, 1) := by decide +kernel
theorem dX12_change_8 : decode cX12_change 8 = .ok (.iconst 0, 1) := by decide +kernel
theorem dX12_change_9 : decode cX12_change 9 = .ok (.iconst 4, 1) := by decide +kernel
theorem dX12_change_10 : decode cX12_change 10 = .ok (.invokestatic 134, 3) := by decide +kernel
theorem dX12_change_13 : decode cX12_change 13 = .ok (.ifCond .ne 5, 3) := by decide +kernel
theorem dX12_change_16 : decode cX12_change 16 = .ok (.iconst (-1), 1) := by decide +kernel
theorem dX12_change_17 : decode cX12_change 17 = .ok (.ireturn, 1) := by decide +kernel
theorem dX12_change_18 : decode cX12_change 18 = .ok (.aload_n 0, 1) := by decide +kernel
theorem dX12_change_19 : decode cX12_change 19 = .ok (.getfield 48, 3) := by decide +kernel
theorem dX12_change_22 : decode cX12_change 22 = .ok (.iload_n 1, 1) := by decide +kernel
theorem dX12_change_23 : decode cX12_change 23 = .ok (.iaload, 1) := by decide +kernel
theorem dX12_change_24 : decode cX12_change 24 = .ok (.istore_n 3, 1) := by decide +kernel
theorem dX12_change_25 : decode cX12_change 25 = .ok (.iload_n 3, 1) := by decide +kernel
theorem dX12_change_26 : decode cX12_change 26 = .ok (.ifCond .ne 6, 3) := by decide +kernel
theorem dX12_change_29 : decode cX12_change 29 = .ok (.bipush (-2), 2) := by decide +kernel
theorem dX12_change_31 : decode cX12_change 31 = .ok (.ireturn, 1) := by decide +kernel
theorem dX12_change_32 : decode cX12_change 32 = .ok (.iload_n 2, 1) := by decide +kernel
theorem dX12_change_33 : decode cX12_change 33 = .ok (.iconst 2, 1) := by decide +kernel
theorem dX12_change_34 : decode cX12_change 34 = .ok (.if_icmp .le 94, 3) := by decide +kernel
theorem dX12_change_37 : decode cX12_change 37 = .ok (.iload_n 3, 1) := by decide +kernel
theorem dX12_change_38 : decode cX12_change 38 = .ok (.iconst 1, 1) := by decide +kernel
theorem dX12_change_39 : decode cX12_change 39 = .ok (.if_icmp .ne 6, 3) := by decide +kernel
theorem dX12_change_42 : decode cX12_change 42 = .ok (.bipush (-3), 2) := by decide +kernel
theorem dX12_change_44 : decode cX12_change 44 = .ok (.ireturn, 1) := by decide +kernel
theorem dX12_change_45 : decode cX12_change 45 = .ok (.iconst 0, 1) := by decide +kernel
theorem dX12_change_46 : decode cX12_change 46 = .ok (.istore 4, 2) := by decide +kernel
theorem dX12_change_48 : decode cX12_change 48 = .ok (.iload 4, 2) := by decide +kernel
theorem dX12_change_50 : decode cX12_change 50 = .ok (.iload_n 3, 1) := by decide +kernel
theorem dX12_change_51 : decode cX12_change 51 = .ok (.iconst 1, 1) := by decide +kernel
theorem dX12_change_52 : decode cX12_change 52 = .ok (.isub, 1) := by decide +kernel
theorem dX12_change_53 : decode cX12_change 53 = .ok (.if_icmp .ge 62, 3) := by decide +kernel
theorem dX12_change_56 : decode cX12_change 56 = .ok (.iload_n 2, 1) := by decide +kernel
theorem dX12_change_57 : decode cX12_change 57 = .ok (.iconst 4, 1) := by decide +kernel
theorem dX12_change_58 : decode cX12_change 58 = .ok (.if_icmp .ne 57, 3) := by decide +kernel
theorem dX12_change_61 : decode cX12_change 61 = .ok (.aload_n 0, 1) := by decide +kernel
theorem dX12_change_62 : decode cX12_change 62 = .ok (.getfield 51, 3) := by decide +kernel
theorem dX12_change_65 : decode cX12_change 65 = .ok (.iconst 5, 1) := by decide +kernel
theorem dX12_change_66 : decode cX12_change 66 = .ok (.iload_n 1, 1) := by decide +kernel
theorem dX12_change_67 : decode cX12_change 67 = .ok (.imul, 1) := by decide +kernel
theorem dX12_change_68 : decode cX12_change 68 = .ok (.iload 4, 2) := by decide +kernel
theorem dX12_change_70 : decode cX12_change 70 = .ok (.iadd, 1) := by decide +kernel
theorem dX12_change_71 : decode cX12_change 71 = .ok (.aload_n 0, 1) := by decide +kernel
theorem dX12_change_72 : decode cX12_change 72 = .ok (.iload_n 1, 1) := by decide +kernel
theorem dX12_change_73 : decode cX12_change 73 = .ok (.iload 4, 2) := by decide +kernel
theorem dX12_change_75 : decode cX12_change 75 = .ok (.iconst 1, 1) := by decide +kernel
theorem dX12_change_76 : decode cX12_change 76 = .ok (.iadd, 1) := by decide +kernel
theorem dX12_change_77 : decode cX12_change 77 = .ok (.invokevirtual 256, 3) := by decide +kernel
theorem dX12_change_80 : decode cX12_change 80 = .ok (.iastore, 1) := by decide +kernel
theorem dX12_change_81 : decode cX12_change 81 = .ok (.iload 4, 2) := by decide +kernel
theorem dX12_change_83 : decode cX12_change 83 = .ok (.iload_n 3, 1) := by decide +kernel
theorem dX12_change_84 : decode cX12_change 84 = .ok (.iconst 2, 1) := by decide +kernel
theorem dX12_change_85 : decode cX12_change 85 = .ok (.isub, 1) := by decide +kernel
theorem dX12_change_86 : decode cX12_change 86 = .ok (.if_icmp .ge 23, 3) := by decide +kernel
theorem dX12_change_89 : decode cX12_change 89 = .ok (.aload_n 0, 1) := by decide +kernel
theorem dX12_change_90 : decode cX12_change 90 = .ok (.getfield 54, 3) := by decide +kernel
theorem dX12_change_93 : decode cX12_change 93 = .ok (.iconst 5, 1) := by decide +kernel
theorem dX12_change_94 : decode cX12_change 94 = .ok (.iload_n 1, 1) := by decide +kernel
theorem dX12_change_95 : decode cX12_change 95 = .ok (.imul, 1) := by decide +kernel
theorem dX12_change_96 : decode cX12_change 96 = .ok (.iload 4, 2) := by decide +kernel
theorem dX12_change_98 : decode cX12_change 98 = .ok (.iadd, 1) := by decide +kernel
theorem dX12_change_99 : decode cX12_change 99 = .ok (.aload_n 0, 1) := by decide +kernel
theorem dX12_change_100 : decode cX12_change 100 = .ok (.iload_n 1, 1) := by decide +kernel
theorem dX12_change_101 : decode cX12_change 101 = .ok (.iload 4, 2) := by decide +kernel
theorem dX12_change_103 : decode cX12_change 103 = .ok (.iconst 1, 1) := by decide +kernel
theorem dX12_change_104 : decode cX12_change 104 = .ok (.iadd, 1) := by decide +kernel
theorem dX12_change_105 : decode cX12_change 105 = .ok (.invokevirtual 260, 3) := by decide +kernel
theorem dX12_change_108 : decode cX12_change 108 = .ok (.iastore, 1) := by decide +kernel
theorem dX12_change_109 : decode cX12_change 109 = .ok (.iinc 4 1, 3) := by decide +kernel
theorem dX12_change_112 : decode cX12_change 112 = .ok (.goto (-64), 3) := by decide +kernel
theorem dX12_change_115 : decode cX12_change 115 = .ok (.aload_n 0, 1) := by decide +kernel
theorem dX12_change_116 : decode cX12_change 116 = .ok (.getfield 48, 3) := by decide +kernel
theorem dX12_change_119 : decode cX12_change 119 = .ok (.iload_n 1, 1) := by decide +kernel
theorem dX12_change_120 : decode cX12_change 120 = .ok (.iload_n 3, 1) := by decide +kernel
theorem dX12_change_121 : decode cX12_change 121 = .ok (.iconst 1, 1) := by decide +kernel
theorem dX12_change_122 : decode cX12_change 122 = .ok (.isub, 1) := by decide +kernel
theorem dX12_change_123 : decode cX12_change 123 = .ok (.iastore, 1) := by decide +kernel
theorem dX12_change_124 : decode cX12_change 124 = .ok (.iload_n 3, 1) := by decide +kernel
theorem dX12_change_125 : decode cX12_change 125 = .ok (.iconst 1, 1) := by decide +kernel
theorem dX12_change_126 : decode cX12_change 126 = .ok (.isub, 1) := by decide +kernel
theorem dX12_change_127 : decode cX12_change 127 = .ok (.ireturn, 1) := by decide +kernel
theorem dX12_change_128 : decode cX12_change 128 = .ok (.iload_n 2, 1) := by decide +kernel
theorem dX12_change_129 : decode cX12_change 129 = .ok (.ifCond .ne 7, 3) := by decide +kernel
theorem dX12_change_132 : decode cX12_change 132 = .ok (.iconst 0, 1) := by decide +kernel
theorem dX12_change_133 : decode cX12_change 133 = .ok (.goto 13, 3) := by decide +kernel
theorem dX12_change_136 : decode cX12_change 136 = .ok (.iload_n 2, 1) := by decide +kernel
theorem dX12_change_137 : decode cX12_change 137 = .ok (.iconst 1, 1) := by decide +kernel
theorem dX12_change_138 : decode cX12_change 138 = .ok (.if_icmp .ne 7, 3) := by decide +kernel
theorem dX12_change_141 : decode cX12_change 141 = .ok (.iconst 1, 1) := by decide +kernel
theorem dX12_change_142 : decode cX12_change 142 = .ok (.goto 4, 3) := by decide +kernel
theorem dX12_change_145 : decode cX12_change 145 = .ok (.iconst (-1), 1) := by decide +kernel
theorem dX12_change_146 : decode cX12_change 146 = .ok (.istore 4, 2) := by decide +kernel
theorem dX12_change_148 : decode cX12_change 148 = .ok (.iconst 0, 1) := by decide +kernel
theorem dX12_change_149 : decode cX12_change 149 = .ok (.istore 5, 2) := by decide +kernel
theorem dX12_change_151 : decode cX12_change 151 = .ok (.iload 5, 2) := by decide +kernel
theorem dX12_change_153 : decode cX12_change 153 = .ok (.iload_n 3, 1) := by decide +kernel
theorem dX12_change_154 : decode cX12_change 154 = .ok (.if_icmp .ge 29, 3) := by decide +kernel
theorem dX12_change_157 : decode cX12_change 157 = .ok (.iconst 1, 1) := by decide +kernel
theorem dX12_change_158 : decode cX12_change 158 = .ok (.aload_n 0, 1) := by decide +kernel
theorem dX12_change_159 : decode cX12_change 159 = .ok (.iload_n 1, 1) := by decide +kernel
theorem dX12_change_160 : decode cX12_change 160 = .ok (.iload 5, 2) := by decide +kernel
theorem dX12_change_162 : decode cX12_change 162 = .ok (.invokevirtual 256, 3) := by decide +kernel
theorem dX12_change_165 : decode cX12_change 165 = .ok (.iload 4, 2) := by decide +kernel
theorem dX12_change_167 : decode cX12_change 167 = .ok (.iadd, 1) := by decide +kernel
theorem dX12_change_168 : decode cX12_change 168 = .ok (.invokestatic 267, 3) := by decide +kernel
theorem dX12_change_171 : decode cX12_change 171 = .ok (.ifCond .ne 6, 3) := by decide +kernel
theorem dX12_change_174 : decode cX12_change 174 = .ok (.bipush (-3), 2) := by decide +kernel
theorem dX12_change_176 : decode cX12_change 176 = .ok (.ireturn, 1) := by decide +kernel
theorem dX12_change_177 : decode cX12_change 177 = .ok (.iinc 5 1, 3) := by decide +kernel
theorem dX12_change_180 : decode cX12_change 180 = .ok (.goto (-29), 3) := by decide +kernel
theorem dX12_change_183 : decode cX12_change 183 = .ok (.iconst 0, 1) := by decide +kernel
theorem dX12_change_184 : decode cX12_change 184 = .ok (.istore 5, 2) := by decide +kernel
theorem dX12_change_186 : decode cX12_change 186 = .ok (.iload 5, 2) := by decide +kernel
theorem dX12_change_188 : decode cX12_change 188 = .ok (.iload_n 3, 1) := by decide +kernel
theorem dX12_change_189 : decode cX12_change 189 = .ok (.if_icmp .ge 30, 3) := by decide +kernel
theorem dX12_change_192 : decode cX12_change 192 = .ok (.aload_n 0, 1) := by decide +kernel
theorem dX12_change_193 : decode cX12_change 193 = .ok (.getfield 51, 3) := by decide +kernel
theorem dX12_change_196 : decode cX12_change 196 = .ok (.iconst 5, 1) := by decide +kernel
theorem dX12_change_197 : decode cX12_change 197 = .ok (.iload_n 1, 1) := by decide +kernel
theorem dX12_change_198 : decode cX12_change 198 = .ok (.imul, 1) := by decide +kernel
theorem dX12_change_199 : decode cX12_change 199 = .ok (.iload 5, 2) := by decide +kernel
theorem dX12_change_201 : decode cX12_change 201 = .ok (.iadd, 1) := by decide +kernel
theorem dX12_change_202 : decode cX12_change 202 = .ok (.aload_n 0, 1) := by decide +kernel
theorem dX12_change_203 : decode cX12_change 203 = .ok (.iload_n 1, 1) := by decide +kernel
theorem dX12_change_204 : decode cX12_change 204 = .ok (.iload 5, 2) := by decide +kernel
theorem dX12_change_206 : decode cX12_change 206 = .ok (.invokevirtual 256, 3) := by decide +kernel
theorem dX12_change_209 : decode cX12_change 209 = .ok (.iload 4, 2) := by decide +kernel
theorem dX12_change_211 : decode cX12_change 211 = .ok (.iadd, 1) := by decide +kernel
theorem dX12_change_212 : decode cX12_change 212 = .ok (.iastore, 1) := by decide +kernel
theorem dX12_change_213 : decode cX12_change 213 = .ok (.iinc 5 1, 3) := by decide +kernel
theorem dX12_change_216 : decode cX12_change 216 = .ok (.goto (-30), 3) := by decide +kernel
theorem dX12_change_219 : decode cX12_change 219 = .ok (.iconst 0, 1) := by decide +kernel
theorem dX12_change_220 : decode cX12_change 220 = .ok (.istore 5, 2) := by decide +kernel
theorem dX12_change_222 : decode cX12_change 222 = .ok (.iconst 2, 1) := by decide +kernel
theorem dX12_change_223 : decode cX12_change 223 = .ok (.iload 5, 2) := by decide +kernel
theorem dX12_change_225 : decode cX12_change 225 = .ok (.imul, 1) := by decide +kernel
theorem dX12_change_226 : decode cX12_change 226 = .ok (.iload_n 3, 1) := by decide +kernel
theorem dX12_change_227 : decode cX12_change 227 = .ok (.iconst 1, 1) := by decide +kernel
theorem dX12_change_228 : decode cX12_change 228 = .ok (.isub, 1) := by decide +kernel
theorem dX12_change_229 : decode cX12_change 229 = .ok (.if_icmp .ge 37, 3) := by decide +kernel
theorem dX12_change_232 : decode cX12_change 232 = .ok (.iload_n 2, 1) := by decide +kernel
theorem dX12_change_233 : decode cX12_change 233 = .ok (.ifCond .ne 33, 3) := by decide +kernel
theorem dX12_change_236 : decode cX12_change 236 = .ok (.aload_n 0, 1) := by decide +kernel
theorem dX12_change_237 : decode cX12_change 237 = .ok (.aload_n 0, 1) := by decide +kernel
theorem dX12_change_238 : decode cX12_change 238 = .ok (.getfield 51, 3) := by decide +kernel
theorem dX12_change_241 : decode cX12_change 241 = .ok (.iconst 5, 1) := by decide +kernel
theorem dX12_change_242 : decode cX12_change 242 = .ok (.iload_n 1, 1) := by decide +kernel
theorem dX12_change_243 : decode cX12_change 243 = .ok (.imul, 1) := by decide +kernel
theorem dX12_change_244 : decode cX12_change 244 = .ok (.iload 5, 2) := by decide +kernel
theorem dX12_change_246 : decode cX12_change 246 = .ok (.iadd, 1) := by decide +kernel
theorem dX12_change_247 : decode cX12_change 247 = .ok (.iconst 5, 1) := by decide +kernel
theorem dX12_change_248 : decode cX12_change 248 = .ok (.iload_n 1, 1) := by decide +kernel
theorem dX12_change_249 : decode cX12_change 249 = .ok (.imul, 1) := by decide +kernel
theorem dX12_change_250 : decode cX12_change 250 = .ok (.iload_n 3, 1) := by decide +kernel
theorem dX12_change_251 : decode cX12_change 251 = .ok (.iadd, 1) := by decide +kernel
theorem dX12_change_252 : decode cX12_change 252 = .ok (.iconst 1, 1) := by decide +kernel
theorem dX12_change_253 : decode cX12_change 253 = .ok (.isub, 1) := by decide +kernel
theorem dX12_change_254 : decode cX12_change 254 = .ok (.iload 5, 2) := by decide +kernel
theorem dX12_change_256 : decode cX12_change 256 = .ok (.isub, 1) := by decide +kernel
theorem dX12_change_257 : decode cX12_change 257 = .ok (.invokevirtual 300, 3) := by decide +kernel
theorem dX12_change_260 : decode cX12_change 260 = .ok (.iinc 5 1, 3) := by decide +kernel
theorem dX12_change_263 : decode cX12_change 263 = .ok (.goto (-41), 3) := by decide +kernel
theorem dX12_change_266 : decode cX12_change 266 = .ok (.iconst 0, 1) := by decide +kernel
theorem dX12_change_267 : decode cX12_change 267 = .ok (.istore 5, 2) := by decide +kernel
theorem dX12_change_269 : decode cX12_change 269 = .ok (.iconst 2, 1) := by decide +kernel
theorem dX12_change_270 : decode cX12_change 270 = .ok (.iload 5, 2) := by decide +kernel
theorem dX12_change_272 : decode cX12_change 272 = .ok (.imul, 1) := by decide +kernel
theorem dX12_change_273 : decode cX12_change 273 = .ok (.iload_n 3, 1) := by decide +kernel
theorem dX12_change_274 : decode cX12_change 274 = .ok (.iconst 2, 1) := by decide +kernel
theorem dX12_change_275 : decode cX12_change 275 = .ok (.isub, 1) := by decide +kernel
theorem dX12_change_276 : decode cX12_change 276 = .ok (.if_icmp .ge 37, 3) := by decide +kernel
theorem dX12_change_279 : decode cX12_change 279 = .ok (.iload_n 2, 1) := by decide +kernel
theorem dX12_change_280 : decode cX12_change 280 = .ok (.ifCond .ne 33, 3) := by decide +kernel
theorem dX12_change_283 : decode cX12_change 283 = .ok (.aload_n 0, 1) := by decide +kernel
theorem dX12_change_284 : decode cX12_change 284 = .ok (.aload_n 0, 1) := by decide +kernel
theorem dX12_change_285 : decode cX12_change 285 = .ok (.getfield 54, 3) := by decide +kernel
theorem dX12_change_288 : decode cX12_change 288 = .ok (.iconst 5, 1) := by decide +kernel
theorem dX12_change_289 : decode cX12_change 289 = .ok (.iload_n 1, 1) := by decide +kernel
theorem dX12_change_290 : decode cX12_change 290 = .ok (.imul, 1) := by decide +kernel
theorem dX12_change_291 : decode cX12_change 291 = .ok (.iload 5, 2) := by decide +kernel
theorem dX12_change_293 : decode cX12_change 293 = .ok (.iadd, 1) := by decide +kernel
theorem dX12_change_294 : decode cX12_change 294 = .ok (.iconst 5, 1) := by decide +kernel
theorem dX12_change_295 : decode cX12_change 295 = .ok (.iload_n 1, 1) := by decide +kernel
theorem dX12_change_296 : decode cX12_change 296 = .ok (.imul, 1) := by decide +kernel
theorem dX12_change_297 : decode cX12_change 297 = .ok (.iload_n 3, 1) := by decide +kernel
theorem dX12_change_298 : decode cX12_change 298 = .ok (.iadd, 1) := by decide +kernel
theorem dX12_change_299 : decode cX12_change 299 = .ok (.iconst 2, 1) := by decide +kernel
theorem dX12_change_300 : decode cX12_change 300 = .ok (.isub, 1) := by decide +kernel
theorem dX12_change_301 : decode cX12_change 301 = .ok (.iload 5, 2) := by decide +kernel
theorem dX12_change_303 : decode cX12_change 303 = .ok (.isub, 1) := by decide +kernel
theorem dX12_change_304 : decode cX12_change 304 = .ok (.invokevirtual 300, 3) := by decide +kernel
theorem dX12_change_307 : decode cX12_change 307 = .ok (.iinc 5 1, 3) := by decide +kernel
theorem dX12_change_310 : decode cX12_change 310 = .ok (.goto (-41), 3) := by decide +kernel
theorem dX12_change_313 : decode cX12_change 313 = .ok (.iload_n 3, 1) := by decide +kernel
theorem dX12_change_314 : decode cX12_change 314 = .ok (.ireturn, 1) := by decide +kernel
theorem dX12_would_0 : decode cX12_would 0 = .ok (.iload_n 1, 1) := by decide +kernel
theorem dX12_would_1 : decode cX12_would 1 = .ok (.invokestatic 253, 3) := by decide +kernel
theorem dX12_would_4 : decode cX12_would 4 = .ok (.ifCond .eq 46, 3) := by decide +kernel
theorem dX12_would_7 : decode cX12_would 7 = .ok (.aload_n 0, 1) := by decide +kernel
theorem dX12_would_8 : decode cX12_would 8 = .ok (.getfield 48, 3) := by decide +kernel
theorem dX12_would_11 : decode cX12_would 11 = .ok (.iload_n 1, 1) := by decide +kernel
theorem dX12_would_12 : decode cX12_would 12 = .ok (.iaload, 1) := by decide +kernel
theorem dX12_would_13 : decode cX12_would 13 = .ok (.ifCond .eq 37, 3) := by decide +kernel
theorem dX12_would_16 : decode cX12_would 16 = .ok (.aload_n 0, 1) := by decide +kernel
theorem dX12_would_17 : decode cX12_would 17 = .ok (.iload_n 1, 1) := by decide +kernel
theorem dX12_would_18 : decode cX12_would 18 = .ok (.iload_n 2, 1) := by decide +kernel
theorem dX12_would_19 : decode cX12_would 19 = .ok (.iload_n 3, 1) := by decide +kernel
theorem dX12_would_20 : decode cX12_would 20 = .ok (.invokevirtual 263, 3) := by decide +kernel
theorem dX12_would_23 : decode cX12_would 23 = .ok (.ifCond .eq 27, 3) := by decide +kernel
theorem dX12_would_26 : decode cX12_would 26 = .ok (.iload_n 2, 1) := by decide +kernel
theorem dX12_would_27 : decode cX12_would 27 = .ok (.iload 4, 2) := by decide +kernel
theorem dX12_would_29 : decode cX12_would 29 = .ok (.invokestatic 267, 3) := by decide +kernel
theorem dX12_would_32 : decode cX12_would 32 = .ok (.ifCond .eq 18, 3) := by decide +kernel
theorem dX12_would_35 : decode cX12_would 35 = .ok (.iload 5, 2) := by decide +kernel
theorem dX12_would_37 : decode cX12_would 37 = .ok (.iconst 0, 1) := by decide +kernel
theorem dX12_would_38 : decode cX12_would 38 = .ok (.aload_n 0, 1) := by decide +kernel
theorem dX12_would_39 : decode cX12_would 39 = .ok (.getfield 48, 3) := by decide +kernel
theorem dX12_would_42 : decode cX12_would 42 = .ok (.iload_n 1, 1) := by decide +kernel
theorem dX12_would_43 : decode cX12_would 43 = .ok (.iaload, 1) := by decide +kernel
theorem dX12_would_44 : decode cX12_would 44 = .ok (.invokestatic 134, 3) := by decide +kernel
theorem dX12_would_47 : decode cX12_would 47 = .ok (.ifCond .ne 7, 3) := by decide +kernel
theorem dX12_would_50 : decode cX12_would 50 = .ok (.ldc2_w 156, 3) := by decide +kernel
theorem dX12_would_53 : decode cX12_would 53 = .ok (.lreturn, 1) := by decide +kernel
theorem dX12_would_54 : decode cX12_would 54 = .ok (.iload_n 2, 1) := by decide +kernel
theorem dX12_would_55 : decode cX12_would 55 = .ok (.ifCond .eq 12, 3) := by decide +kernel
theorem dX12_would_58 : decode cX12_would 58 = .ok (.aload_n 0, 1) := by decide +kernel
theorem dX12_would_59 : decode cX12_would 59 = .ok (.iload_n 1, 1) := by decide +kernel
theorem dX12_would_60 : decode cX12_would 60 = .ok (.iload_n 3, 1) := by decide +kernel
theorem dX12_would_61 : decode cX12_would 61 = .ok (.invokevirtual 256, 3) := by decide +kernel
theorem dX12_would_64 : decode cX12_would 64 = .ok (.goto 9, 3) := by decide +kernel
theorem dX12_would_67 : decode cX12_would 67 = .ok (.aload_n 0, 1) := by decide +kernel
theorem dX12_would_68 : decode cX12_would 68 = .ok (.iload_n 1, 1) := by decide +kernel
theorem dX12_would_69 : decode cX12_would 69 = .ok (.iload_n 3, 1) := by decide +kernel
theorem dX12_would_70 : decode cX12_would 70 = .ok (.invokevirtual 260, 3) := by decide +kernel
theorem dX12_would_73 : decode cX12_would 73 = .ok (.istore 6, 2) := by decide +kernel
theorem dX12_would_75 : decode cX12_would 75 = .ok (.aload_n 0, 1) := by decide +kernel
theorem dX12_would_76 : decode cX12_would 76 = .ok (.iload_n 1, 1) := by decide +kernel
theorem dX12_would_77 : decode cX12_would 77 = .ok (.iload_n 2, 1) := by decide +kernel
theorem dX12_would_78 : decode cX12_would 78 = .ok (.iload_n 3, 1) := by decide +kernel
theorem dX12_would_79 : decode cX12_would 79 = .ok (.iload 4, 2) := by decide +kernel
theorem dX12_would_81 : decode cX12_would 81 = .ok (.invokevirtual 271, 3) := by decide +kernel
theorem dX12_would_84 : decode cX12_would 84 = .ok (.aload_n 0, 1) := by decide +kernel
theorem dX12_would_85 : decode cX12_would 85 = .ok (.iload_n 1, 1) := by decide +kernel
theorem dX12_would_86 : decode cX12_would 86 = .ok (.iconst 0, 1) := by decide +kernel
theorem dX12_would_87 : decode cX12_would 87 = .ok (.invokevirtual 275, 3) := by decide +kernel
theorem dX12_would_90 : decode cX12_would 90 = .ok (.aload_n 0, 1) := by decide +kernel
theorem dX12_would_91 : decode cX12_would 91 = .ok (.iload_n 1, 1) := by decide +kernel
theorem dX12_would_92 : decode cX12_would 92 = .ok (.iload_n 2, 1) := by decide +kernel
theorem dX12_would_93 : decode cX12_would 93 = .ok (.iload_n 3, 1) := by decide +kernel
theorem dX12_would_94 : decode cX12_would 94 = .ok (.iload 6, 2) := by decide +kernel
theorem dX12_would_96 : decode cX12_would 96 = .ok (.invokevirtual 271, 3) := by decide +kernel
theorem dX12_would_99 : decode cX12_would 99 = .ok (.aload_n 0, 1) := by decide +kernel
theorem dX12_would_100 : decode cX12_would 100 = .ok (.getfield 75, 3) := by decide +kernel
theorem dX12_would_103 : decode cX12_would 103 = .ok (.bipush 6, 2) := by decide +kernel
theorem dX12_would_105 : decode cX12_would 105 = .ok (.aload_n 0, 1) := by decide +kernel
theorem dX12_would_106 : decode cX12_would 106 = .ok (.getfield 48, 3) := by decide +kernel
theorem dX12_would_109 : decode cX12_would 109 = .ok (.iload_n 1, 1) := by decide +kernel
theorem dX12_would_110 : decode cX12_would 110 = .ok (.iaload, 1) := by decide +kernel
theorem dX12_would_111 : decode cX12_would 111 = .ok (.imul, 1) := by decide +kernel
theorem dX12_would_112 : decode cX12_would 112 = .ok (.iload 5, 2) := by decide +kernel
theorem dX12_would_114 : decode cX12_would 114 = .ok (.iadd, 1) := by decide +kernel
theorem dX12_would_115 : decode cX12_would 115 = .ok (.laload, 1) := by decide +kernel
theorem dX12_would_116 : decode cX12_would 116 = .ok (.lreturn, 1) := by decide +kernel
theorem dX12_goes_0 : decode cX12_goes 0 = .ok (.aload_n 0, 1) := by decide +kernel
theorem dX12_goes_1 : decode cX12_goes 1 = .ok (.getfield 48, 3) := by decide +kernel
theorem dX12_goes_4 : decode cX12_goes 4 = .ok (.iload_n 1, 1) := by decide +kernel
theorem dX12_goes_5 : decode cX12_goes 5 = .ok (.iaload, 1) := by decide +kernel
theorem dX12_goes_6 : decode cX12_goes 6 = .ok (.istore 4, 2) := by decide +kernel
theorem dX12_goes_8 : decode cX12_goes 8 = .ok (.iconst 0, 1) := by decide +kernel
theorem dX12_goes_9 : decode cX12_goes 9 = .ok (.istore 5, 2) := by decide +kernel
theorem dX12_goes_11 : decode cX12_goes 11 = .ok (.iload 5, 2) := by decide +kernel
theorem dX12_goes_13 : decode cX12_goes 13 = .ok (.iload 4, 2) := by decide +kernel
theorem dX12_goes_15 : decode cX12_goes 15 = .ok (.if_icmp .ge 27, 3) := by decide +kernel
theorem dX12_goes_18 : decode cX12_goes 18 = .ok (.aload_n 0, 1) := by decide +kernel
theorem dX12_goes_19 : decode cX12_goes 19 = .ok (.getfield 81, 3) := by decide +kernel
theorem dX12_goes_22 : decode cX12_goes 22 = .ok (.iload 5, 2) := by decide +kernel
theorem dX12_goes_24 : decode cX12_goes 24 = .ok (.iload 5, 2) := by decide +kernel
theorem dX12_goes_26 : decode cX12_goes 26 = .ok (.iload_n 3, 1) := by decide +kernel
theorem dX12_goes_27 : decode cX12_goes 27 = .ok (.if_icmp .ne 7, 3) := by decide +kernel
theorem dX12_goes_30 : decode cX12_goes 30 = .ok (.lconst 1, 1) := by decide +kernel
theorem dX12_goes_31 : decode cX12_goes 31 = .ok (.goto 4, 3) := by decide +kernel
theorem dX12_goes_34 : decode cX12_goes 34 = .ok (.lconst 0, 1) := by decide +kernel
theorem dX12_goes_35 : decode cX12_goes 35 = .ok (.lastore, 1) := by decide +kernel
theorem dX12_goes_36 : decode cX12_goes 36 = .ok (.iinc 5 1, 3) := by decide +kernel
theorem dX12_goes_39 : decode cX12_goes 39 = .ok (.goto (-28), 3) := by decide +kernel
theorem dX12_goes_42 : decode cX12_goes 42 = .ok (.iconst 0, 1) := by decide +kernel
theorem dX12_goes_43 : decode cX12_goes 43 = .ok (.istore 5, 2) := by decide +kernel
theorem dX12_goes_45 : decode cX12_goes 45 = .ok (.iload 5, 2) := by decide +kernel
theorem dX12_goes_47 : decode cX12_goes 47 = .ok (.iload_n 2, 1) := by decide +kernel
theorem dX12_goes_48 : decode cX12_goes 48 = .ok (.if_icmp .ge 139, 3) := by decide +kernel
theorem dX12_goes_51 : decode cX12_goes 51 = .ok (.iconst 0, 1) := by decide +kernel
theorem dX12_goes_52 : decode cX12_goes 52 = .ok (.istore 6, 2) := by decide +kernel
theorem dX12_goes_54 : decode cX12_goes 54 = .ok (.iload 6, 2) := by decide +kernel
theorem dX12_goes_56 : decode cX12_goes 56 = .ok (.iload 4, 2) := by decide +kernel
theorem dX12_goes_58 : decode cX12_goes 58 = .ok (.if_icmp .ge 93, 3) := by decide +kernel
theorem dX12_goes_61 : decode cX12_goes 61 = .ok (.aload_n 0, 1) := by decide +kernel
theorem dX12_goes_62 : decode cX12_goes 62 = .ok (.getfield 81, 3) := by decide +kernel
theorem dX12_goes_65 : decode cX12_goes 65 = .ok (.iload 6, 2) := by decide +kernel
theorem dX12_goes_67 : decode cX12_goes 67 = .ok (.laload, 1) := by decide +kernel
theorem dX12_goes_68 : decode cX12_goes 68 = .ok (.aload_n 0, 1) := by decide +kernel
theorem dX12_goes_69 : decode cX12_goes 69 = .ok (.iload_n 1, 1) := by decide +kernel
theorem dX12_goes_70 : decode cX12_goes 70 = .ok (.iload 6, 2) := by decide +kernel
theorem dX12_goes_72 : decode cX12_goes 72 = .ok (.invokevirtual 256, 3) := by decide +kernel
theorem dX12_goes_75 : decode cX12_goes 75 = .ok (.i2l, 1) := by decide +kernel
theorem dX12_goes_76 : decode cX12_goes 76 = .ok (.lmul, 1) := by decide +kernel
theorem dX12_goes_77 : decode cX12_goes 77 = .ok (.lstore 7, 2) := by decide +kernel
theorem dX12_goes_79 : decode cX12_goes 79 = .ok (.iload 6, 2) := by decide +kernel
theorem dX12_goes_81 : decode cX12_goes 81 = .ok (.ifCond .le 18, 3) := by decide +kernel
theorem dX12_goes_84 : decode cX12_goes 84 = .ok (.lload 7, 2) := by decide +kernel
theorem dX12_goes_86 : decode cX12_goes 86 = .ok (.aload_n 0, 1) := by decide +kernel
theorem dX12_goes_87 : decode cX12_goes 87 = .ok (.getfield 81, 3) := by decide +kernel
theorem dX12_goes_90 : decode cX12_goes 90 = .ok (.iload 6, 2) := by decide +kernel
theorem dX12_goes_92 : decode cX12_goes 92 = .ok (.iconst 1, 1) := by decide +kernel
theorem dX12_goes_93 : decode cX12_goes 93 = .ok (.isub, 1) := by decide +kernel
theorem dX12_goes_94 : decode cX12_goes 94 = .ok (.laload, 1) := by decide +kernel
theorem dX12_goes_95 : decode cX12_goes 95 = .ok (.ladd, 1) := by decide +kernel
theorem dX12_goes_96 : decode cX12_goes 96 = .ok (.goto 5, 3) := by decide +kernel
theorem dX12_goes_99 : decode cX12_goes 99 = .ok (.lload 7, 2) := by decide +kernel
theorem dX12_goes_101 : decode cX12_goes 101 = .ok (.lstore 7, 2) := by decide +kernel
theorem dX12_goes_103 : decode cX12_goes 103 = .ok (.aload_n 0, 1) := by decide +kernel
theorem dX12_goes_104 : decode cX12_goes 104 = .ok (.getfield 84, 3) := by decide +kernel
theorem dX12_goes_107 : decode cX12_goes 107 = .ok (.iload 6, 2) := by decide +kernel
theorem dX12_goes_109 : decode cX12_goes 109 = .ok (.iload 6, 2) := by decide +kernel
theorem dX12_goes_111 : decode cX12_goes 111 = .ok (.iload 4, 2) := by decide +kernel
theorem dX12_goes_113 : decode cX12_goes 113 = .ok (.iconst 1, 1) := by decide +kernel
theorem dX12_goes_114 : decode cX12_goes 114 = .ok (.isub, 1) := by decide +kernel
theorem dX12_goes_115 : decode cX12_goes 115 = .ok (.if_icmp .ge 27, 3) := by decide +kernel
theorem dX12_goes_118 : decode cX12_goes 118 = .ok (.lload 7, 2) := by decide +kernel
theorem dX12_goes_120 : decode cX12_goes 120 = .ok (.aload_n 0, 1) := by decide +kernel
theorem dX12_goes_121 : decode cX12_goes 121 = .ok (.getfield 81, 3) := by decide +kernel
theorem dX12_goes_124 : decode cX12_goes 124 = .ok (.iload 6, 2) := by decide +kernel
theorem dX12_goes_126 : decode cX12_goes 126 = .ok (.iconst 1, 1) := by decide +kernel
theorem dX12_goes_127 : decode cX12_goes 127 = .ok (.iadd, 1) := by decide +kernel
theorem dX12_goes_128 : decode cX12_goes 128 = .ok (.laload, 1) := by decide +kernel
theorem dX12_goes_129 : decode cX12_goes 129 = .ok (.aload_n 0, 1) := by decide +kernel
theorem dX12_goes_130 : decode cX12_goes 130 = .ok (.iload_n 1, 1) := by decide +kernel
theorem dX12_goes_131 : decode cX12_goes 131 = .ok (.iload 6, 2) := by decide +kernel
theorem dX12_goes_133 : decode cX12_goes 133 = .ok (.invokevirtual 260, 3) := by decide +kernel
theorem dX12_goes_136 : decode cX12_goes 136 = .ok (.i2l, 1) := by decide +kernel
theorem dX12_goes_137 : decode cX12_goes 137 = .ok (.lmul, 1) := by decide +kernel
theorem dX12_goes_138 : decode cX12_goes 138 = .ok (.ladd, 1) := by decide +kernel
theorem dX12_goes_139 : decode cX12_goes 139 = .ok (.goto 5, 3) := by decide +kernel
theorem dX12_goes_142 : decode cX12_goes 142 = .ok (.lload 7, 2) := by decide +kernel
theorem dX12_goes_144 : decode cX12_goes 144 = .ok (.lastore, 1) := by decide +kernel
theorem dX12_goes_145 : decode cX12_goes 145 = .ok (.iinc 6 1, 3) := by decide +kernel
theorem dX12_goes_148 : decode cX12_goes 148 = .ok (.goto (-94), 3) := by decide +kernel
theorem dX12_goes_151 : decode cX12_goes 151 = .ok (.iconst 0, 1) := by decide +kernel
theorem dX12_goes_152 : decode cX12_goes 152 = .ok (.istore 6, 2) := by decide +kernel
theorem dX12_goes_154 : decode cX12_goes 154 = .ok (.iload 6, 2) := by decide +kernel
theorem dX12_goes_156 : decode cX12_goes 156 = .ok (.iload 4, 2) := by decide +kernel
theorem dX12_goes_158 : decode cX12_goes 158 = .ok (.if_icmp .ge 23, 3) := by decide +kernel
theorem dX12_goes_161 : decode cX12_goes 161 = .ok (.aload_n 0, 1) := by decide +kernel
theorem dX12_goes_162 : decode cX12_goes 162 = .ok (.getfield 81, 3) := by decide +kernel
theorem dX12_goes_165 : decode cX12_goes 165 = .ok (.iload 6, 2) := by decide +kernel
theorem dX12_goes_167 : decode cX12_goes 167 = .ok (.aload_n 0, 1) := by decide +kernel
theorem dX12_goes_168 : decode cX12_goes 168 = .ok (.getfield 84, 3) := by decide +kernel
theorem dX12_goes_171 : decode cX12_goes 171 = .ok (.iload 6, 2) := by decide +kernel
theorem dX12_goes_173 : decode cX12_goes 173 = .ok (.laload, 1) := by decide +kernel
theorem dX12_goes_174 : decode cX12_goes 174 = .ok (.lastore, 1) := by decide +kernel
theorem dX12_goes_175 : decode cX12_goes 175 = .ok (.iinc 6 1, 3) := by decide +kernel
theorem dX12_goes_178 : decode cX12_goes 178 = .ok (.goto (-24), 3) := by decide +kernel
theorem dX12_goes_181 : decode cX12_goes 181 = .ok (.iinc 5 1, 3) := by decide +kernel
theorem dX12_goes_184 : decode cX12_goes 184 = .ok (.goto (-139), 3) := by decide +kernel
theorem dX12_goes_187 : decode cX12_goes 187 = .ok (.return_, 1) := by decide +kernel
theorem dX12_walks_0 : decode cX12_walks 0 = .ok (.iload_n 1, 1) := by decide +kernel
theorem dX12_walks_1 : decode cX12_walks 1 = .ok (.invokestatic 253, 3) := by decide +kernel
theorem dX12_walks_4 : decode cX12_walks 4 = .ok (.ifCond .eq 55, 3) := by decide +kernel
theorem dX12_walks_7 : decode cX12_walks 7 = .ok (.aload_n 0, 1) := by decide +kernel
theorem dX12_walks_8 : decode cX12_walks 8 = .ok (.getfield 48, 3) := by decide +kernel
theorem dX12_walks_11 : decode cX12_walks 11 = .ok (.iload_n 1, 1) := by decide +kernel
theorem dX12_walks_12 : decode cX12_walks 12 = .ok (.iaload, 1) := by decide +kernel
theorem dX12_walks_13 : decode cX12_walks 13 = .ok (.ifCond .eq 46, 3) := by decide +kernel
theorem dX12_walks_16 : decode cX12_walks 16 = .ok (.iload_n 2, 1) := by decide +kernel
theorem dX12_walks_17 : decode cX12_walks 17 = .ok (.iconst 0, 1) := by decide +kernel
theorem dX12_walks_18 : decode cX12_walks 18 = .ok (.bipush 8, 2) := by decide +kernel
theorem dX12_walks_20 : decode cX12_walks 20 = .ok (.invokestatic 134, 3) := by decide +kernel
theorem dX12_walks_23 : decode cX12_walks 23 = .ok (.ifCond .eq 36, 3) := by decide +kernel
theorem dX12_walks_26 : decode cX12_walks 26 = .ok (.iload_n 3, 1) := by decide +kernel
theorem dX12_walks_27 : decode cX12_walks 27 = .ok (.iconst 0, 1) := by decide +kernel
theorem dX12_walks_28 : decode cX12_walks 28 = .ok (.aload_n 0, 1) := by decide +kernel
theorem dX12_walks_29 : decode cX12_walks 29 = .ok (.getfield 48, 3) := by decide +kernel
theorem dX12_walks_32 : decode cX12_walks 32 = .ok (.iload_n 1, 1) := by decide +kernel
theorem dX12_walks_33 : decode cX12_walks 33 = .ok (.iaload, 1) := by decide +kernel
theorem dX12_walks_34 : decode cX12_walks 34 = .ok (.iconst 1, 1) := by decide +kernel
theorem dX12_walks_35 : decode cX12_walks 35 = .ok (.isub, 1) := by decide +kernel
theorem dX12_walks_36 : decode cX12_walks 36 = .ok (.invokestatic 134, 3) := by decide +kernel
theorem dX12_walks_39 : decode cX12_walks 39 = .ok (.ifCond .eq 20, 3) := by decide +kernel
theorem dX12_walks_42 : decode cX12_walks 42 = .ok (.iload 4, 2) := by decide +kernel
theorem dX12_walks_44 : decode cX12_walks 44 = .ok (.iconst 0, 1) := by decide +kernel
theorem dX12_walks_45 : decode cX12_walks 45 = .ok (.aload_n 0, 1) := by decide +kernel
theorem dX12_walks_46 : decode cX12_walks 46 = .ok (.getfield 48, 3) := by decide +kernel
theorem dX12_walks_49 : decode cX12_walks 49 = .ok (.iload_n 1, 1) := by decide +kernel
theorem dX12_walks_50 : decode cX12_walks 50 = .ok (.iaload, 1) := by decide +kernel
theorem dX12_walks_51 : decode cX12_walks 51 = .ok (.iconst 1, 1) := by decide +kernel
theorem dX12_walks_52 : decode cX12_walks 52 = .ok (.isub, 1) := by decide +kernel
theorem dX12_walks_53 : decode cX12_walks 53 = .ok (.invokestatic 134, 3) := by decide +kernel
theorem dX12_walks_56 : decode cX12_walks 56 = .ok (.ifCond .ne 7, 3) := by decide +kernel
theorem dX12_walks_59 : decode cX12_walks 59 = .ok (.ldc2_w 156, 3) := by decide +kernel
theorem dX12_walks_62 : decode cX12_walks 62 = .ok (.lreturn, 1) := by decide +kernel
theorem dX12_walks_63 : decode cX12_walks 63 = .ok (.aload_n 0, 1) := by decide +kernel
theorem dX12_walks_64 : decode cX12_walks 64 = .ok (.iload_n 1, 1) := by decide +kernel
theorem dX12_walks_65 : decode cX12_walks 65 = .ok (.iload_n 2, 1) := by decide +kernel
theorem dX12_walks_66 : decode cX12_walks 66 = .ok (.iload_n 3, 1) := by decide +kernel
theorem dX12_walks_67 : decode cX12_walks 67 = .ok (.invokevirtual 304, 3) := by decide +kernel
theorem dX12_walks_70 : decode cX12_walks 70 = .ok (.aload_n 0, 1) := by decide +kernel
theorem dX12_walks_71 : decode cX12_walks 71 = .ok (.getfield 81, 3) := by decide +kernel
theorem dX12_walks_74 : decode cX12_walks 74 = .ok (.iload 4, 2) := by decide +kernel
theorem dX12_walks_76 : decode cX12_walks 76 = .ok (.laload, 1) := by decide +kernel
theorem dX12_walks_77 : decode cX12_walks 77 = .ok (.lreturn, 1) := by decide +kernel
theorem dX12_powers_0 : decode cX12_powers 0 = .ok (.iload_n 1, 1) := by decide +kernel
theorem dX12_powers_1 : decode cX12_powers 1 = .ok (.invokestatic 253, 3) := by decide +kernel
theorem dX12_powers_4 : decode cX12_powers 4 = .ok (.ifCond .eq 22, 3) := by decide +kernel
theorem dX12_powers_7 : decode cX12_powers 7 = .ok (.aload_n 0, 1) := by decide +kernel
theorem dX12_powers_8 : decode cX12_powers 8 = .ok (.getfield 48, 3) := by decide +kernel
theorem dX12_powers_11 : decode cX12_powers 11 = .ok (.iload_n 1, 1) := by decide +kernel
theorem dX12_powers_12 : decode cX12_powers 12 = .ok (.iaload, 1) := by decide +kernel
theorem dX12_powers_13 : decode cX12_powers 13 = .ok (.ifCond .eq 13, 3) := by decide +kernel
theorem dX12_powers_16 : decode cX12_powers 16 = .ok (.iload_n 2, 1) := by decide +kernel
theorem dX12_powers_17 : decode cX12_powers 17 = .ok (.iconst 0, 1) := by decide +kernel
theorem dX12_powers_18 : decode cX12_powers 18 = .ok (.bipush 8, 2) := by decide +kernel
theorem dX12_powers_20 : decode cX12_powers 20 = .ok (.invokestatic 134, 3) := by decide +kernel
theorem dX12_powers_23 : decode cX12_powers 23 = .ok (.ifCond .ne 7, 3) := by decide +kernel
theorem dX12_powers_26 : decode cX12_powers 26 = .ok (.ldc2_w 156, 3) := by decide +kernel
theorem dX12_powers_29 : decode cX12_powers 29 = .ok (.lreturn, 1) := by decide +kernel
theorem dX12_powers_30 : decode cX12_powers 30 = .ok (.lconst 0, 1) := by decide +kernel
theorem dX12_powers_31 : decode cX12_powers 31 = .ok (.lstore_n 3, 1) := by decide +kernel
theorem dX12_powers_32 : decode cX12_powers 32 = .ok (.iconst 0, 1) := by decide +kernel
theorem dX12_powers_33 : decode cX12_powers 33 = .ok (.istore 5, 2) := by decide +kernel
theorem dX12_powers_35 : decode cX12_powers 35 = .ok (.iload 5, 2) := by decide +kernel
theorem dX12_powers_37 : decode cX12_powers 37 = .ok (.aload_n 0, 1) := by decide +kernel
theorem dX12_powers_38 : decode cX12_powers 38 = .ok (.getfield 48, 3) := by decide +kernel
theorem dX12_powers_41 : decode cX12_powers 41 = .ok (.iload_n 1, 1) := by decide +kernel
theorem dX12_powers_42 : decode cX12_powers 42 = .ok (.iaload, 1) := by decide +kernel
theorem dX12_powers_43 : decode cX12_powers 43 = .ok (.if_icmp .ge 27, 3) := by decide +kernel
theorem dX12_powers_46 : decode cX12_powers 46 = .ok (.aload_n 0, 1) := by decide +kernel
theorem dX12_powers_47 : decode cX12_powers 47 = .ok (.iload_n 1, 1) := by decide +kernel
theorem dX12_powers_48 : decode cX12_powers 48 = .ok (.iload_n 2, 1) := by decide +kernel
theorem dX12_powers_49 : decode cX12_powers 49 = .ok (.iload 5, 2) := by decide +kernel
theorem dX12_powers_51 : decode cX12_powers 51 = .ok (.invokevirtual 304, 3) := by decide +kernel
theorem dX12_powers_54 : decode cX12_powers 54 = .ok (.lload_n 3, 1) := by decide +kernel
theorem dX12_powers_55 : decode cX12_powers 55 = .ok (.aload_n 0, 1) := by decide +kernel
theorem dX12_powers_56 : decode cX12_powers 56 = .ok (.getfield 81, 3) := by decide +kernel
theorem dX12_powers_59 : decode cX12_powers 59 = .ok (.iload 5, 2) := by decide +kernel
theorem dX12_powers_61 : decode cX12_powers 61 = .ok (.laload, 1) := by decide +kernel
theorem dX12_powers_62 : decode cX12_powers 62 = .ok (.ladd, 1) := by decide +kernel
theorem dX12_powers_63 : decode cX12_powers 63 = .ok (.lstore_n 3, 1) := by decide +kernel
theorem dX12_powers_64 : decode cX12_powers 64 = .ok (.iinc 5 1, 3) := by decide +kernel
theorem dX12_powers_67 : decode cX12_powers 67 = .ok (.goto (-32), 3) := by decide +kernel
theorem dX12_powers_70 : decode cX12_powers 70 = .ok (.lload_n 3, 1) := by decide +kernel
theorem dX12_powers_71 : decode cX12_powers 71 = .ok (.lreturn, 1) := by decide +kernel
theorem dX12_join_0 : decode cX12_join 0 = .ok (.iload_n 1, 1) := by decide +kernel
theorem dX12_join_1 : decode cX12_join 1 = .ok (.invokestatic 253, 3) := by decide +kernel
theorem dX12_join_4 : decode cX12_join 4 = .ok (.ifCond .eq 20, 3) := by decide +kernel
theorem dX12_join_7 : decode cX12_join 7 = .ok (.iload_n 2, 1) := by decide +kernel
theorem dX12_join_8 : decode cX12_join 8 = .ok (.invokestatic 253, 3) := by decide +kernel
theorem dX12_join_11 : decode cX12_join 11 = .ok (.ifCond .eq 13, 3) := by decide +kernel
theorem dX12_join_14 : decode cX12_join 14 = .ok (.iload_n 3, 1) := by decide +kernel
theorem dX12_join_15 : decode cX12_join 15 = .ok (.iconst 1, 1) := by decide +kernel
theorem dX12_join_16 : decode cX12_join 16 = .ok (.bipush 36, 2) := by decide +kernel
theorem dX12_join_18 : decode cX12_join 18 = .ok (.invokestatic 134, 3) := by decide +kernel
theorem dX12_join_21 : decode cX12_join 21 = .ok (.ifCond .ne 5, 3) := by decide +kernel
theorem dX12_join_24 : decode cX12_join 24 = .ok (.iconst (-1), 1) := by decide +kernel
theorem dX12_join_25 : decode cX12_join 25 = .ok (.ireturn, 1) := by decide +kernel
theorem dX12_join_26 : decode cX12_join 26 = .ok (.aload_n 0, 1) := by decide +kernel
theorem dX12_join_27 : decode cX12_join 27 = .ok (.getfield 48, 3) := by decide +kernel
theorem dX12_join_30 : decode cX12_join 30 = .ok (.iload_n 1, 1) := by decide +kernel
theorem dX12_join_31 : decode cX12_join 31 = .ok (.iaload, 1) := by decide +kernel
theorem dX12_join_32 : decode cX12_join 32 = .ok (.ifCond .eq 12, 3) := by decide +kernel
theorem dX12_join_35 : decode cX12_join 35 = .ok (.aload_n 0, 1) := by decide +kernel
theorem dX12_join_36 : decode cX12_join 36 = .ok (.getfield 48, 3) := by decide +kernel
theorem dX12_join_39 : decode cX12_join 39 = .ok (.iload_n 2, 1) := by decide +kernel
theorem dX12_join_40 : decode cX12_join 40 = .ok (.iaload, 1) := by decide +kernel
theorem dX12_join_41 : decode cX12_join 41 = .ok (.ifCond .ne 6, 3) := by decide +kernel
theorem dX12_join_44 : decode cX12_join 44 = .ok (.bipush (-2), 2) := by decide +kernel
theorem dX12_join_46 : decode cX12_join 46 = .ok (.ireturn, 1) := by decide +kernel
theorem dX12_join_47 : decode cX12_join 47 = .ok (.aload_n 0, 1) := by decide +kernel
theorem dX12_join_48 : decode cX12_join 48 = .ok (.getfield 48, 3) := by decide +kernel
theorem dX12_join_51 : decode cX12_join 51 = .ok (.iload_n 1, 1) := by decide +kernel
theorem dX12_join_52 : decode cX12_join 52 = .ok (.iaload, 1) := by decide +kernel
theorem dX12_join_53 : decode cX12_join 53 = .ok (.istore 4, 2) := by decide +kernel
theorem dX12_join_55 : decode cX12_join 55 = .ok (.aload_n 0, 1) := by decide +kernel
theorem dX12_join_56 : decode cX12_join 56 = .ok (.getfield 48, 3) := by decide +kernel
theorem dX12_join_59 : decode cX12_join 59 = .ok (.iload_n 2, 1) := by decide +kernel
theorem dX12_join_60 : decode cX12_join 60 = .ok (.iaload, 1) := by decide +kernel
theorem dX12_join_61 : decode cX12_join 61 = .ok (.istore 5, 2) := by decide +kernel
theorem dX12_join_63 : decode cX12_join 63 = .ok (.iload 4, 2) := by decide +kernel
theorem dX12_join_65 : decode cX12_join 65 = .ok (.iload 5, 2) := by decide +kernel
theorem dX12_join_67 : decode cX12_join 67 = .ok (.iadd, 1) := by decide +kernel
theorem dX12_join_68 : decode cX12_join 68 = .ok (.iconst 5, 1) := by decide +kernel
theorem dX12_join_69 : decode cX12_join 69 = .ok (.if_icmp .le 6, 3) := by decide +kernel
theorem dX12_join_72 : decode cX12_join 72 = .ok (.bipush (-3), 2) := by decide +kernel
theorem dX12_join_74 : decode cX12_join 74 = .ok (.ireturn, 1) := by decide +kernel
theorem dX12_join_75 : decode cX12_join 75 = .ok (.aload_n 0, 1) := by decide +kernel
theorem dX12_join_76 : decode cX12_join 76 = .ok (.getfield 54, 3) := by decide +kernel
theorem dX12_join_79 : decode cX12_join 79 = .ok (.iconst 5, 1) := by decide +kernel
theorem dX12_join_80 : decode cX12_join 80 = .ok (.iload_n 1, 1) := by decide +kernel
theorem dX12_join_81 : decode cX12_join 81 = .ok (.imul, 1) := by decide +kernel
theorem dX12_join_82 : decode cX12_join 82 = .ok (.iload 4, 2) := by decide +kernel
theorem dX12_join_84 : decode cX12_join 84 = .ok (.iadd, 1) := by decide +kernel
theorem dX12_join_85 : decode cX12_join 85 = .ok (.iconst 1, 1) := by decide +kernel
theorem dX12_join_86 : decode cX12_join 86 = .ok (.isub, 1) := by decide +kernel
theorem dX12_join_87 : decode cX12_join 87 = .ok (.iload_n 3, 1) := by decide +kernel
theorem dX12_join_88 : decode cX12_join 88 = .ok (.iastore, 1) := by decide +kernel
theorem dX12_join_89 : decode cX12_join 89 = .ok (.iconst 0, 1) := by decide +kernel
theorem dX12_join_90 : decode cX12_join 90 = .ok (.istore 6, 2) := by decide +kernel
theorem dX12_join_92 : decode cX12_join 92 = .ok (.iload 6, 2) := by decide +kernel
theorem dX12_join_94 : decode cX12_join 94 = .ok (.iload 5, 2) := by decide +kernel
theorem dX12_join_96 : decode cX12_join 96 = .ok (.if_icmp .ge 60, 3) := by decide +kernel
theorem dX12_join_99 : decode cX12_join 99 = .ok (.aload_n 0, 1) := by decide +kernel
theorem dX12_join_100 : decode cX12_join 100 = .ok (.getfield 51, 3) := by decide +kernel
theorem dX12_join_103 : decode cX12_join 103 = .ok (.iconst 5, 1) := by decide +kernel
theorem dX12_join_104 : decode cX12_join 104 = .ok (.iload_n 1, 1) := by decide +kernel
theorem dX12_join_105 : decode cX12_join 105 = .ok (.imul, 1) := by decide +kernel
theorem dX12_join_106 : decode cX12_join 106 = .ok (.iload 4, 2) := by decide +kernel
theorem dX12_join_108 : decode cX12_join 108 = .ok (.iadd, 1) := by decide +kernel
theorem dX12_join_109 : decode cX12_join 109 = .ok (.iload 6, 2) := by decide +kernel
theorem dX12_join_111 : decode cX12_join 111 = .ok (.iadd, 1) := by decide +kernel
theorem dX12_join_112 : decode cX12_join 112 = .ok (.aload_n 0, 1) := by decide +kernel
theorem dX12_join_113 : decode cX12_join 113 = .ok (.iload_n 2, 1) := by decide +kernel
theorem dX12_join_114 : decode cX12_join 114 = .ok (.iload 6, 2) := by decide +kernel
theorem dX12_join_116 : decode cX12_join 116 = .ok (.invokevirtual 256, 3) := by decide +kernel
theorem dX12_join_119 : decode cX12_join 119 = .ok (.iastore, 1) := by decide +kernel
theorem dX12_join_120 : decode cX12_join 120 = .ok (.iload 6, 2) := by decide +kernel
theorem dX12_join_122 : decode cX12_join 122 = .ok (.iload 5, 2) := by decide +kernel
theorem dX12_join_124 : decode cX12_join 124 = .ok (.iconst 1, 1) := by decide +kernel
theorem dX12_join_125 : decode cX12_join 125 = .ok (.isub, 1) := by decide +kernel
theorem dX12_join_126 : decode cX12_join 126 = .ok (.if_icmp .ge 24, 3) := by decide +kernel
theorem dX12_join_129 : decode cX12_join 129 = .ok (.aload_n 0, 1) := by decide +kernel
theorem dX12_join_130 : decode cX12_join 130 = .ok (.getfield 54, 3) := by decide +kernel
theorem dX12_join_133 : decode cX12_join 133 = .ok (.iconst 5, 1) := by decide +kernel
theorem dX12_join_134 : decode cX12_join 134 = .ok (.iload_n 1, 1) := by decide +kernel
theorem dX12_join_135 : decode cX12_join 135 = .ok (.imul, 1) := by decide +kernel
theorem dX12_join_136 : decode cX12_join 136 = .ok (.iload 4, 2) := by decide +kernel
theorem dX12_join_138 : decode cX12_join 138 = .ok (.iadd, 1) := by decide +kernel
theorem dX12_join_139 : decode cX12_join 139 = .ok (.iload 6, 2) := by decide +kernel
theorem dX12_join_141 : decode cX12_join 141 = .ok (.iadd, 1) := by decide +kernel
theorem dX12_join_142 : decode cX12_join 142 = .ok (.aload_n 0, 1) := by decide +kernel
theorem dX12_join_143 : decode cX12_join 143 = .ok (.iload_n 2, 1) := by decide +kernel
theorem dX12_join_144 : decode cX12_join 144 = .ok (.iload 6, 2) := by decide +kernel
theorem dX12_join_146 : decode cX12_join 146 = .ok (.invokevirtual 260, 3) := by decide +kernel
theorem dX12_join_149 : decode cX12_join 149 = .ok (.iastore, 1) := by decide +kernel
theorem dX12_join_150 : decode cX12_join 150 = .ok (.iinc 6 1, 3) := by decide +kernel
theorem dX12_join_153 : decode cX12_join 153 = .ok (.goto (-61), 3) := by decide +kernel
theorem dX12_join_156 : decode cX12_join 156 = .ok (.aload_n 0, 1) := by decide +kernel
theorem dX12_join_157 : decode cX12_join 157 = .ok (.getfield 48, 3) := by decide +kernel
theorem dX12_join_160 : decode cX12_join 160 = .ok (.iload_n 1, 1) := by decide +kernel
theorem dX12_join_161 : decode cX12_join 161 = .ok (.iload 4, 2) := by decide +kernel
theorem dX12_join_163 : decode cX12_join 163 = .ok (.iload 5, 2) := by decide +kernel
theorem dX12_join_165 : decode cX12_join 165 = .ok (.iadd, 1) := by decide +kernel
theorem dX12_join_166 : decode cX12_join 166 = .ok (.iastore, 1) := by decide +kernel
theorem dX12_join_167 : decode cX12_join 167 = .ok (.iload 4, 2) := by decide +kernel
theorem dX12_join_169 : decode cX12_join 169 = .ok (.iload 5, 2) := by decide +kernel
theorem dX12_join_171 : decode cX12_join 171 = .ok (.iadd, 1) := by decide +kernel
theorem dX12_join_172 : decode cX12_join 172 = .ok (.ireturn, 1) := by decide +kernel
theorem dX12_nearest_0 : decode cX12_nearest 0 = .ok (.iload_n 1, 1) := by decide +kernel
theorem dX12_nearest_1 : decode cX12_nearest 1 = .ok (.invokestatic 253, 3) := by decide +kernel
theorem dX12_nearest_4 : decode cX12_nearest 4 = .ok (.ifCond .eq 13, 3) := by decide +kernel
theorem dX12_nearest_7 : decode cX12_nearest 7 = .ok (.iload_n 2, 1) := by decide +kernel
theorem dX12_nearest_8 : decode cX12_nearest 8 = .ok (.iconst 1, 1) := by decide +kernel
theorem dX12_nearest_9 : decode cX12_nearest 9 = .ok (.bipush 50, 2) := by decide +kernel
theorem dX12_nearest_11 : decode cX12_nearest 11 = .ok (.invokestatic 134, 3) := by decide +kernel
theorem dX12_nearest_14 : decode cX12_nearest 14 = .ok (.ifCond .ne 5, 3) := by decide +kernel
theorem dX12_nearest_17 : decode cX12_nearest 17 = .ok (.iconst (-1), 1) := by decide +kernel
theorem dX12_nearest_18 : decode cX12_nearest 18 = .ok (.ireturn, 1) := by decide +kernel
theorem dX12_nearest_19 : decode cX12_nearest 19 = .ok (.aload_n 0, 1) := by decide +kernel
theorem dX12_nearest_20 : decode cX12_nearest 20 = .ok (.getfield 48, 3) := by decide +kernel
theorem dX12_nearest_23 : decode cX12_nearest 23 = .ok (.iload_n 1, 1) := by decide +kernel
theorem dX12_nearest_24 : decode cX12_nearest 24 = .ok (.iaload, 1) := by decide +kernel
theorem dX12_nearest_25 : decode cX12_nearest 25 = .ok (.ifCond .ne 6, 3) := by decide +kernel
theorem dX12_nearest_28 : decode cX12_nearest 28 = .ok (.bipush (-2), 2) := by decide +kernel
theorem dX12_nearest_30 : decode cX12_nearest 30 = .ok (.ireturn, 1) := by decide +kernel
theorem dX12_nearest_31 : decode cX12_nearest 31 = .ok (.aload_n 0, 1) := by decide +kernel
theorem dX12_nearest_32 : decode cX12_nearest 32 = .ok (.getfield 48, 3) := by decide +kernel
theorem dX12_nearest_35 : decode cX12_nearest 35 = .ok (.iload_n 1, 1) := by decide +kernel
theorem dX12_nearest_36 : decode cX12_nearest 36 = .ok (.iaload, 1) := by decide +kernel
theorem dX12_nearest_37 : decode cX12_nearest 37 = .ok (.iconst 1, 1) := by decide +kernel
theorem dX12_nearest_38 : decode cX12_nearest 38 = .ok (.if_icmp .ne 6, 3) := by decide +kernel
theorem dX12_nearest_41 : decode cX12_nearest 41 = .ok (.bipush (-3), 2) := by decide +kernel
theorem dX12_nearest_43 : decode cX12_nearest 43 = .ok (.ireturn, 1) := by decide +kernel
theorem dX12_nearest_44 : decode cX12_nearest 44 = .ok (.ldc_w 308, 3) := by decide +kernel
theorem dX12_nearest_47 : decode cX12_nearest 47 = .ok (.istore_n 3, 1) := by decide +kernel
theorem dX12_nearest_48 : decode cX12_nearest 48 = .ok (.aload_n 0, 1) := by decide +kernel
theorem dX12_nearest_49 : decode cX12_nearest 49 = .ok (.iload_n 1, 1) := by decide +kernel
theorem dX12_nearest_50 : decode cX12_nearest 50 = .ok (.iconst 0, 1) := by decide +kernel
theorem dX12_nearest_51 : decode cX12_nearest 51 = .ok (.aload_n 0, 1) := by decide +kernel
theorem dX12_nearest_52 : decode cX12_nearest 52 = .ok (.getfield 48, 3) := by decide +kernel
theorem dX12_nearest_55 : decode cX12_nearest 55 = .ok (.iload_n 1, 1) := by decide +kernel
theorem dX12_nearest_56 : decode cX12_nearest 56 = .ok (.iaload, 1) := by decide +kernel
theorem dX12_nearest_57 : decode cX12_nearest 57 = .ok (.iconst 0, 1) := by decide +kernel
theorem dX12_nearest_58 : decode cX12_nearest 58 = .ok (.iload_n 2, 1) := by decide +kernel
theorem dX12_nearest_59 : decode cX12_nearest 59 = .ok (.invokevirtual 289, 3) := by decide +kernel
theorem dX12_nearest_62 : decode cX12_nearest 62 = .ok (.istore 4, 2) := by decide +kernel
theorem dX12_nearest_64 : decode cX12_nearest 64 = .ok (.iconst 1, 1) := by decide +kernel
theorem dX12_nearest_65 : decode cX12_nearest 65 = .ok (.istore 5, 2) := by decide +kernel
theorem dX12_nearest_67 : decode cX12_nearest 67 = .ok (.iload 5, 2) := by decide +kernel
theorem dX12_nearest_69 : decode cX12_nearest 69 = .ok (.aload_n 0, 1) := by decide +kernel
theorem dX12_nearest_70 : decode cX12_nearest 70 = .ok (.getfield 48, 3) := by decide +kernel
theorem dX12_nearest_73 : decode cX12_nearest 73 = .ok (.iload_n 1, 1) := by decide +kernel
theorem dX12_nearest_74 : decode cX12_nearest 74 = .ok (.iaload, 1) := by decide +kernel
theorem dX12_nearest_75 : decode cX12_nearest 75 = .ok (.if_icmp .ge 49, 3) := by decide +kernel
theorem dX12_nearest_78 : decode cX12_nearest 78 = .ok (.aload_n 0, 1) := by decide +kernel
theorem dX12_nearest_79 : decode cX12_nearest 79 = .ok (.iload_n 1, 1) := by decide +kernel
theorem dX12_nearest_80 : decode cX12_nearest 80 = .ok (.iconst 0, 1) := by decide +kernel
theorem dX12_nearest_81 : decode cX12_nearest 81 = .ok (.aload_n 0, 1) := by decide +kernel
theorem dX12_nearest_82 : decode cX12_nearest 82 = .ok (.getfield 48, 3) := by decide +kernel
theorem dX12_nearest_85 : decode cX12_nearest 85 = .ok (.iload_n 1, 1) := by decide +kernel
theorem dX12_nearest_86 : decode cX12_nearest 86 = .ok (.iaload, 1) := by decide +kernel
theorem dX12_nearest_87 : decode cX12_nearest 87 = .ok (.iload 5, 2) := by decide +kernel
theorem dX12_nearest_89 : decode cX12_nearest 89 = .ok (.iload_n 2, 1) := by decide +kernel
theorem dX12_nearest_90 : decode cX12_nearest 90 = .ok (.invokevirtual 289, 3) := by decide +kernel
theorem dX12_nearest_93 : decode cX12_nearest 93 = .ok (.istore 6, 2) := by decide +kernel
theorem dX12_nearest_95 : decode cX12_nearest 95 = .ok (.iload 6, 2) := by decide +kernel
theorem dX12_nearest_97 : decode cX12_nearest 97 = .ok (.iload 4, 2) := by decide +kernel
theorem dX12_nearest_99 : decode cX12_nearest 99 = .ok (.isub, 1) := by decide +kernel
theorem dX12_nearest_100 : decode cX12_nearest 100 = .ok (.iload_n 3, 1) := by decide +kernel
theorem dX12_nearest_101 : decode cX12_nearest 101 = .ok (.if_icmp .ge 11, 3) := by decide +kernel
theorem dX12_nearest_104 : decode cX12_nearest 104 = .ok (.iload 6, 2) := by decide +kernel
theorem dX12_nearest_106 : decode cX12_nearest 106 = .ok (.iload 4, 2) := by decide +kernel
theorem dX12_nearest_108 : decode cX12_nearest 108 = .ok (.isub, 1) := by decide +kernel
theorem dX12_nearest_109 : decode cX12_nearest 109 = .ok (.goto 4, 3) := by decide +kernel
theorem dX12_nearest_112 : decode cX12_nearest 112 = .ok (.iload_n 3, 1) := by decide +kernel
theorem dX12_nearest_113 : decode cX12_nearest 113 = .ok (.istore_n 3, 1) := by decide +kernel
theorem dX12_nearest_114 : decode cX12_nearest 114 = .ok (.iload 6, 2) := by decide +kernel
theorem dX12_nearest_116 : decode cX12_nearest 116 = .ok (.istore 4, 2) := by decide +kernel
theorem dX12_nearest_118 : decode cX12_nearest 118 = .ok (.iinc 5 1, 3) := by decide +kernel
theorem dX12_nearest_121 : decode cX12_nearest 121 = .ok (.goto (-54), 3) := by decide +kernel
theorem dX12_nearest_124 : decode cX12_nearest 124 = .ok (.iload_n 3, 1) := by decide +kernel
theorem dX12_nearest_125 : decode cX12_nearest 125 = .ok (.ireturn, 1) := by decide +kernel
theorem dX12_strike_0 : decode cX12_strike 0 = .ok (.iload_n 1, 1) := by decide +kernel
theorem dX12_strike_1 : decode cX12_strike 1 = .ok (.invokestatic 253, 3) := by decide +kernel
theorem dX12_strike_4 : decode cX12_strike 4 = .ok (.ifCond .eq 55, 3) := by decide +kernel
theorem dX12_strike_7 : decode cX12_strike 7 = .ok (.aload_n 0, 1) := by decide +kernel
theorem dX12_strike_8 : decode cX12_strike 8 = .ok (.getfield 48, 3) := by decide +kernel
theorem dX12_strike_11 : decode cX12_strike 11 = .ok (.iload_n 1, 1) := by decide +kernel
theorem dX12_strike_12 : decode cX12_strike 12 = .ok (.iaload, 1) := by decide +kernel
theorem dX12_strike_13 : decode cX12_strike 13 = .ok (.ifCond .eq 46, 3) := by decide +kernel
theorem dX12_strike_16 : decode cX12_strike 16 = .ok (.iload_n 2, 1) := by decide +kernel
theorem dX12_strike_17 : decode cX12_strike 17 = .ok (.iconst 0, 1) := by decide +kernel
theorem dX12_strike_18 : decode cX12_strike 18 = .ok (.aload_n 0, 1) := by decide +kernel
theorem dX12_strike_19 : decode cX12_strike 19 = .ok (.getfield 48, 3) := by decide +kernel
theorem dX12_strike_22 : decode cX12_strike 22 = .ok (.iload_n 1, 1) := by decide +kernel
theorem dX12_strike_23 : decode cX12_strike 23 = .ok (.iaload, 1) := by decide +kernel
theorem dX12_strike_24 : decode cX12_strike 24 = .ok (.iconst 1, 1) := by decide +kernel
theorem dX12_strike_25 : decode cX12_strike 25 = .ok (.isub, 1) := by decide +kernel
theorem dX12_strike_26 : decode cX12_strike 26 = .ok (.invokestatic 134, 3) := by decide +kernel
theorem dX12_strike_29 : decode cX12_strike 29 = .ok (.ifCond .eq 30, 3) := by decide +kernel
theorem dX12_strike_32 : decode cX12_strike 32 = .ok (.iload_n 3, 1) := by decide +kernel
theorem dX12_strike_33 : decode cX12_strike 33 = .ok (.iconst 0, 1) := by decide +kernel
theorem dX12_strike_34 : decode cX12_strike 34 = .ok (.bipush 8, 2) := by decide +kernel
theorem dX12_strike_36 : decode cX12_strike 36 = .ok (.invokestatic 134, 3) := by decide +kernel
theorem dX12_strike_39 : decode cX12_strike 39 = .ok (.ifCond .eq 20, 3) := by decide +kernel
theorem dX12_strike_42 : decode cX12_strike 42 = .ok (.iload 4, 2) := by decide +kernel
theorem dX12_strike_44 : decode cX12_strike 44 = .ok (.iconst 0, 1) := by decide +kernel
theorem dX12_strike_45 : decode cX12_strike 45 = .ok (.aload_n 0, 1) := by decide +kernel
theorem dX12_strike_46 : decode cX12_strike 46 = .ok (.getfield 48, 3) := by decide +kernel
theorem dX12_strike_49 : decode cX12_strike 49 = .ok (.iload_n 1, 1) := by decide +kernel
theorem dX12_strike_50 : decode cX12_strike 50 = .ok (.iaload, 1) := by decide +kernel
theorem dX12_strike_51 : decode cX12_strike 51 = .ok (.iconst 1, 1) := by decide +kernel
theorem dX12_strike_52 : decode cX12_strike 52 = .ok (.isub, 1) := by decide +kernel
theorem dX12_strike_53 : decode cX12_strike 53 = .ok (.invokestatic 134, 3) := by decide +kernel
theorem dX12_strike_56 : decode cX12_strike 56 = .ok (.ifCond .ne 7, 3) := by decide +kernel
theorem dX12_strike_59 : decode cX12_strike 59 = .ok (.ldc2_w 156, 3) := by decide +kernel
theorem dX12_strike_62 : decode cX12_strike 62 = .ok (.lreturn, 1) := by decide +kernel
theorem dX12_strike_63 : decode cX12_strike 63 = .ok (.aload_n 0, 1) := by decide +kernel
theorem dX12_strike_64 : decode cX12_strike 64 = .ok (.getfield 48, 3) := by decide +kernel
theorem dX12_strike_67 : decode cX12_strike 67 = .ok (.iload_n 1, 1) := by decide +kernel
theorem dX12_strike_68 : decode cX12_strike 68 = .ok (.iaload, 1) := by decide +kernel
theorem dX12_strike_69 : decode cX12_strike 69 = .ok (.istore 5, 2) := by decide +kernel
theorem dX12_strike_71 : decode cX12_strike 71 = .ok (.iconst 0, 1) := by decide +kernel
theorem dX12_strike_72 : decode cX12_strike 72 = .ok (.istore 6, 2) := by decide +kernel
theorem dX12_strike_74 : decode cX12_strike 74 = .ok (.iload 6, 2) := by decide +kernel
theorem dX12_strike_76 : decode cX12_strike 76 = .ok (.iload 5, 2) := by decide +kernel
theorem dX12_strike_78 : decode cX12_strike 78 = .ok (.if_icmp .ge 35, 3) := by decide +kernel
theorem dX12_strike_81 : decode cX12_strike 81 = .ok (.aload_n 0, 1) := by decide +kernel
theorem dX12_strike_82 : decode cX12_strike 82 = .ok (.getfield 87, 3) := by decide +kernel
theorem dX12_strike_85 : decode cX12_strike 85 = .ok (.iload 6, 2) := by decide +kernel
theorem dX12_strike_87 : decode cX12_strike 87 = .ok (.lconst 0, 1) := by decide +kernel
theorem dX12_strike_88 : decode cX12_strike 88 = .ok (.lastore, 1) := by decide +kernel
theorem dX12_strike_89 : decode cX12_strike 89 = .ok (.aload_n 0, 1) := by decide +kernel
theorem dX12_strike_90 : decode cX12_strike 90 = .ok (.getfield 90, 3) := by decide +kernel
theorem dX12_strike_93 : decode cX12_strike 93 = .ok (.iload 6, 2) := by decide +kernel
theorem dX12_strike_95 : decode cX12_strike 95 = .ok (.iload 6, 2) := by decide +kernel
theorem dX12_strike_97 : decode cX12_strike 97 = .ok (.iload_n 2, 1) := by decide +kernel
theorem dX12_strike_98 : decode cX12_strike 98 = .ok (.if_icmp .ne 7, 3) := by decide +kernel
theorem dX12_strike_101 : decode cX12_strike 101 = .ok (.lconst 1, 1) := by decide +kernel
theorem dX12_strike_102 : decode cX12_strike 102 = .ok (.goto 4, 3) := by decide +kernel
theorem dX12_strike_105 : decode cX12_strike 105 = .ok (.lconst 0, 1) := by decide +kernel
theorem dX12_strike_106 : decode cX12_strike 106 = .ok (.lastore, 1) := by decide +kernel
theorem dX12_strike_107 : decode cX12_strike 107 = .ok (.iinc 6 1, 3) := by decide +kernel
theorem dX12_strike_110 : decode cX12_strike 110 = .ok (.goto (-36), 3) := by decide +kernel
theorem dX12_strike_113 : decode cX12_strike 113 = .ok (.iconst 0, 1) := by decide +kernel
theorem dX12_strike_114 : decode cX12_strike 114 = .ok (.istore 6, 2) := by decide +kernel
theorem dX12_strike_116 : decode cX12_strike 116 = .ok (.iload 6, 2) := by decide +kernel
theorem dX12_strike_118 : decode cX12_strike 118 = .ok (.iload_n 3, 1) := by decide +kernel
theorem dX12_strike_119 : decode cX12_strike 119 = .ok (.if_icmp .ge 167, 3) := by decide +kernel
theorem dX12_strike_122 : decode cX12_strike 122 = .ok (.iconst 0, 1) := by decide +kernel
theorem dX12_strike_123 : decode cX12_strike 123 = .ok (.istore 7, 2) := by decide +kernel
theorem dX12_strike_125 : decode cX12_strike 125 = .ok (.iload 7, 2) := by decide +kernel
theorem dX12_strike_127 : decode cX12_strike 127 = .ok (.iload 5, 2) := by decide +kernel
theorem dX12_strike_129 : decode cX12_strike 129 = .ok (.if_icmp .ge 31, 3) := by decide +kernel
theorem dX12_strike_132 : decode cX12_strike 132 = .ok (.aload_n 0, 1) := by decide +kernel
theorem dX12_strike_133 : decode cX12_strike 133 = .ok (.getfield 87, 3) := by decide +kernel
theorem dX12_strike_136 : decode cX12_strike 136 = .ok (.iload 7, 2) := by decide +kernel
theorem dX12_strike_138 : decode cX12_strike 138 = .ok (.aload_n 0, 1) := by decide +kernel
theorem dX12_strike_139 : decode cX12_strike 139 = .ok (.getfield 87, 3) := by decide +kernel
theorem dX12_strike_142 : decode cX12_strike 142 = .ok (.iload 7, 2) := by decide +kernel
theorem dX12_strike_144 : decode cX12_strike 144 = .ok (.laload, 1) := by decide +kernel
theorem dX12_strike_145 : decode cX12_strike 145 = .ok (.aload_n 0, 1) := by decide +kernel
theorem dX12_strike_146 : decode cX12_strike 146 = .ok (.getfield 90, 3) := by decide +kernel
theorem dX12_strike_149 : decode cX12_strike 149 = .ok (.iload 7, 2) := by decide +kernel
theorem dX12_strike_151 : decode cX12_strike 151 = .ok (.laload, 1) := by decide +kernel
theorem dX12_strike_152 : decode cX12_strike 152 = .ok (.ladd, 1) := by decide +kernel
theorem dX12_strike_153 : decode cX12_strike 153 = .ok (.lastore, 1) := by decide +kernel
theorem dX12_strike_154 : decode cX12_strike 154 = .ok (.iinc 7 1, 3) := by decide +kernel
theorem dX12_strike_157 : decode cX12_strike 157 = .ok (.goto (-32), 3) := by decide +kernel
theorem dX12_strike_160 : decode cX12_strike 160 = .ok (.iconst 0, 1) := by decide +kernel
theorem dX12_strike_161 : decode cX12_strike 161 = .ok (.istore 7, 2) := by decide +kernel
theorem dX12_strike_163 : decode cX12_strike 163 = .ok (.iload 7, 2) := by decide +kernel
theorem dX12_strike_165 : decode cX12_strike 165 = .ok (.iload 5, 2) := by decide +kernel
theorem dX12_strike_167 : decode cX12_strike 167 = .ok (.if_icmp .ge 113, 3) := by decide +kernel
theorem dX12_strike_170 : decode cX12_strike 170 = .ok (.aload_n 0, 1) := by decide +kernel
theorem dX12_strike_171 : decode cX12_strike 171 = .ok (.getfield 90, 3) := by decide +kernel
theorem dX12_strike_174 : decode cX12_strike 174 = .ok (.iload 7, 2) := by decide +kernel
theorem dX12_strike_176 : decode cX12_strike 176 = .ok (.aload_n 0, 1) := by decide +kernel
theorem dX12_strike_177 : decode cX12_strike 177 = .ok (.getfield 90, 3) := by decide +kernel
theorem dX12_strike_180 : decode cX12_strike 180 = .ok (.iload 7, 2) := by decide +kernel
theorem dX12_strike_182 : decode cX12_strike 182 = .ok (.laload, 1) := by decide +kernel
theorem dX12_strike_183 : decode cX12_strike 183 = .ok (.aload_n 0, 1) := by decide +kernel
theorem dX12_strike_184 : decode cX12_strike 184 = .ok (.iload_n 1, 1) := by decide +kernel
theorem dX12_strike_185 : decode cX12_strike 185 = .ok (.iload 7, 2) := by decide +kernel
theorem dX12_strike_187 : decode cX12_strike 187 = .ok (.invokevirtual 256, 3) := by decide +kernel
theorem dX12_strike_190 : decode cX12_strike 190 = .ok (.i2l, 1) := by decide +kernel
theorem dX12_strike_191 : decode cX12_strike 191 = .ok (.aload_n 0, 1) := by decide +kernel
theorem dX12_strike_192 : decode cX12_strike 192 = .ok (.getfield 87, 3) := by decide +kernel
theorem dX12_strike_195 : decode cX12_strike 195 = .ok (.iload 7, 2) := by decide +kernel
theorem dX12_strike_197 : decode cX12_strike 197 = .ok (.laload, 1) := by decide +kernel
theorem dX12_strike_198 : decode cX12_strike 198 = .ok (.lmul, 1) := by decide +kernel
theorem dX12_strike_199 : decode cX12_strike 199 = .ok (.lsub, 1) := by decide +kernel
theorem dX12_strike_200 : decode cX12_strike 200 = .ok (.lastore, 1) := by decide +kernel
theorem dX12_strike_201 : decode cX12_strike 201 = .ok (.iload 7, 2) := by decide +kernel
theorem dX12_strike_203 : decode cX12_strike 203 = .ok (.iload 5, 2) := by decide +kernel
theorem dX12_strike_205 : decode cX12_strike 205 = .ok (.iconst 1, 1) := by decide +kernel
theorem dX12_strike_206 : decode cX12_strike 206 = .ok (.isub, 1) := by decide +kernel
theorem dX12_strike_207 : decode cX12_strike 207 = .ok (.if_icmp .ge 27, 3) := by decide +kernel
theorem dX12_strike_210 : decode cX12_strike 210 = .ok (.aload_n 0, 1) := by decide +kernel
theorem dX12_strike_211 : decode cX12_strike 211 = .ok (.getfield 90, 3) := by decide +kernel
theorem dX12_strike_214 : decode cX12_strike 214 = .ok (.iload 7, 2) := by decide +kernel
theorem dX12_strike_216 : decode cX12_strike 216 = .ok (.aload_n 0, 1) := by decide +kernel
theorem dX12_strike_217 : decode cX12_strike 217 = .ok (.getfield 90, 3) := by decide +kernel
theorem dX12_strike_220 : decode cX12_strike 220 = .ok (.iload 7, 2) := by decide +kernel
theorem dX12_strike_222 : decode cX12_strike 222 = .ok (.laload, 1) := by decide +kernel
theorem dX12_strike_223 : decode cX12_strike 223 = .ok (.aload_n 0, 1) := by decide +kernel
theorem dX12_strike_224 : decode cX12_strike 224 = .ok (.getfield 87, 3) := by decide +kernel
theorem dX12_strike_227 : decode cX12_strike 227 = .ok (.iload 7, 2) := by decide +kernel
theorem dX12_strike_229 : decode cX12_strike 229 = .ok (.iconst 1, 1) := by decide +kernel
theorem dX12_strike_230 : decode cX12_strike 230 = .ok (.iadd, 1) := by decide +kernel
theorem dX12_strike_231 : decode cX12_strike 231 = .ok (.laload, 1) := by decide +kernel
theorem dX12_strike_232 : decode cX12_strike 232 = .ok (.lsub, 1) := by decide +kernel
theorem dX12_strike_233 : decode cX12_strike 233 = .ok (.lastore, 1) := by decide +kernel
theorem dX12_strike_234 : decode cX12_strike 234 = .ok (.iload 7, 2) := by decide +kernel
theorem dX12_strike_236 : decode cX12_strike 236 = .ok (.ifCond .le 38, 3) := by decide +kernel
theorem dX12_strike_239 : decode cX12_strike 239 = .ok (.aload_n 0, 1) := by decide +kernel
theorem dX12_strike_240 : decode cX12_strike 240 = .ok (.getfield 90, 3) := by decide +kernel
theorem dX12_strike_243 : decode cX12_strike 243 = .ok (.iload 7, 2) := by decide +kernel
theorem dX12_strike_245 : decode cX12_strike 245 = .ok (.aload_n 0, 1) := by decide +kernel
theorem dX12_strike_246 : decode cX12_strike 246 = .ok (.getfield 90, 3) := by decide +kernel
theorem dX12_strike_249 : decode cX12_strike 249 = .ok (.iload 7, 2) := by decide +kernel
theorem dX12_strike_251 : decode cX12_strike 251 = .ok (.laload, 1) := by decide +kernel
theorem dX12_strike_252 : decode cX12_strike 252 = .ok (.aload_n 0, 1) := by decide +kernel
theorem dX12_strike_253 : decode cX12_strike 253 = .ok (.iload_n 1, 1) := by decide +kernel
theorem dX12_strike_254 : decode cX12_strike 254 = .ok (.iload 7, 2) := by decide +kernel
theorem dX12_strike_256 : decode cX12_strike 256 = .ok (.iconst 1, 1) := by decide +kernel
theorem dX12_strike_257 : decode cX12_strike 257 = .ok (.isub, 1) := by decide +kernel
theorem dX12_strike_258 : decode cX12_strike 258 = .ok (.invokevirtual 260, 3) := by decide +kernel
theorem dX12_strike_261 : decode cX12_strike 261 = .ok (.i2l, 1) := by decide +kernel
theorem dX12_strike_262 : decode cX12_strike 262 = .ok (.aload_n 0, 1) := by decide +kernel
theorem dX12_strike_263 : decode cX12_strike 263 = .ok (.getfield 87, 3) := by decide +kernel
theorem dX12_strike_266 : decode cX12_strike 266 = .ok (.iload 7, 2) := by decide +kernel
theorem dX12_strike_268 : decode cX12_strike 268 = .ok (.iconst 1, 1) := by decide +kernel
theorem dX12_strike_269 : decode cX12_strike 269 = .ok (.isub, 1) := by decide +kernel
theorem dX12_strike_270 : decode cX12_strike 270 = .ok (.laload, 1) := by decide +kernel
theorem dX12_strike_271 : decode cX12_strike 271 = .ok (.lmul, 1) := by decide +kernel
theorem dX12_strike_272 : decode cX12_strike 272 = .ok (.lsub, 1) := by decide +kernel
theorem dX12_strike_273 : decode cX12_strike 273 = .ok (.lastore, 1) := by decide +kernel
theorem dX12_strike_274 : decode cX12_strike 274 = .ok (.iinc 7 1, 3) := by decide +kernel
theorem dX12_strike_277 : decode cX12_strike 277 = .ok (.goto (-114), 3) := by decide +kernel
theorem dX12_strike_280 : decode cX12_strike 280 = .ok (.iinc 6 1, 3) := by decide +kernel
theorem dX12_strike_283 : decode cX12_strike 283 = .ok (.goto (-167), 3) := by decide +kernel
theorem dX12_strike_286 : decode cX12_strike 286 = .ok (.aload_n 0, 1) := by decide +kernel
theorem dX12_strike_287 : decode cX12_strike 287 = .ok (.getfield 87, 3) := by decide +kernel
theorem dX12_strike_290 : decode cX12_strike 290 = .ok (.iload 4, 2) := by decide +kernel
theorem dX12_strike_292 : decode cX12_strike 292 = .ok (.laload, 1) := by decide +kernel
theorem dX12_strike_293 : decode cX12_strike 293 = .ok (.lreturn, 1) := by decide +kernel
theorem dX12_draw_0 : decode cX12_draw 0 = .ok (.aload_n 0, 1) := by decide +kernel
theorem dX12_draw_1 : decode cX12_draw 1 = .ok (.sipush 25173, 3) := by decide +kernel
theorem dX12_draw_4 : decode cX12_draw 4 = .ok (.aload_n 0, 1) := by decide +kernel
theorem dX12_draw_5 : decode cX12_draw 5 = .ok (.getfield 309, 3) := by decide +kernel
theorem dX12_draw_8 : decode cX12_draw 8 = .ok (.imul, 1) := by decide +kernel
theorem dX12_draw_9 : decode cX12_draw 9 = .ok (.sipush 13849, 3) := by decide +kernel
theorem dX12_draw_12 : decode cX12_draw 12 = .ok (.iadd, 1) := by decide +kernel
theorem dX12_draw_13 : decode cX12_draw 13 = .ok (.ldc_w 312, 3) := by decide +kernel
theorem dX12_draw_16 : decode cX12_draw 16 = .ok (.irem, 1) := by decide +kernel
theorem dX12_draw_17 : decode cX12_draw 17 = .ok (.putfield 309, 3) := by decide +kernel
theorem dX12_draw_20 : decode cX12_draw 20 = .ok (.aload_n 0, 1) := by decide +kernel
theorem dX12_draw_21 : decode cX12_draw 21 = .ok (.getfield 309, 3) := by decide +kernel
theorem dX12_draw_24 : decode cX12_draw 24 = .ok (.iconst 4, 1) := by decide +kernel
theorem dX12_draw_25 : decode cX12_draw 25 = .ok (.idiv, 1) := by decide +kernel
theorem dX12_draw_26 : decode cX12_draw 26 = .ok (.iload_n 1, 1) := by decide +kernel
theorem dX12_draw_27 : decode cX12_draw 27 = .ok (.irem, 1) := by decide +kernel
theorem dX12_draw_28 : decode cX12_draw 28 = .ok (.ireturn, 1) := by decide +kernel
theorem dX12_draws_0 : decode cX12_draws 0 = .ok (.iload_n 1, 1) := by decide +kernel
theorem dX12_draws_1 : decode cX12_draws 1 = .ok (.invokestatic 253, 3) := by decide +kernel
theorem dX12_draws_4 : decode cX12_draws 4 = .ok (.ifCond .eq 12, 3) := by decide +kernel
theorem dX12_draws_7 : decode cX12_draws 7 = .ok (.iload_n 2, 1) := by decide +kernel
theorem dX12_draws_8 : decode cX12_draws 8 = .ok (.iconst 1, 1) := by decide +kernel
theorem dX12_draws_9 : decode cX12_draws 9 = .ok (.iconst 5, 1) := by decide +kernel
theorem dX12_draws_10 : decode cX12_draws 10 = .ok (.invokestatic 134, 3) := by decide +kernel
theorem dX12_draws_13 : decode cX12_draws 13 = .ok (.ifCond .ne 5, 3) := by decide +kernel
theorem dX12_draws_16 : decode cX12_draws 16 = .ok (.iconst (-1), 1) := by decide +kernel
theorem dX12_draws_17 : decode cX12_draws 17 = .ok (.ireturn, 1) := by decide +kernel
theorem dX12_draws_18 : decode cX12_draws 18 = .ok (.aload_n 0, 1) := by decide +kernel
theorem dX12_draws_19 : decode cX12_draws 19 = .ok (.iload_n 3, 1) := by decide +kernel
theorem dX12_draws_20 : decode cX12_draws 20 = .ok (.ldc_w 313, 3) := by decide +kernel
theorem dX12_draws_23 : decode cX12_draws 23 = .ok (.iand, 1) := by decide +kernel
theorem dX12_draws_24 : decode cX12_draws 24 = .ok (.putfield 309, 3) := by decide +kernel
theorem dX12_draws_27 : decode cX12_draws 27 = .ok (.aload_n 0, 1) := by decide +kernel
theorem dX12_draws_28 : decode cX12_draws 28 = .ok (.getfield 48, 3) := by decide +kernel
theorem dX12_draws_31 : decode cX12_draws 31 = .ok (.iload_n 1, 1) := by decide +kernel
theorem dX12_draws_32 : decode cX12_draws 32 = .ok (.iload_n 2, 1) := by decide +kernel
theorem dX12_draws_33 : decode cX12_draws 33 = .ok (.iastore, 1) := by decide +kernel
theorem dX12_draws_34 : decode cX12_draws 34 = .ok (.iconst 0, 1) := by decide +kernel
theorem dX12_draws_35 : decode cX12_draws 35 = .ok (.istore 4, 2) := by decide +kernel
theorem dX12_draws_37 : decode cX12_draws 37 = .ok (.iload 4, 2) := by decide +kernel
theorem dX12_draws_39 : decode cX12_draws 39 = .ok (.iload_n 2, 1) := by decide +kernel
theorem dX12_draws_40 : decode cX12_draws 40 = .ok (.if_icmp .ge 29, 3) := by decide +kernel
theorem dX12_draws_43 : decode cX12_draws 43 = .ok (.aload_n 0, 1) := by decide +kernel
theorem dX12_draws_44 : decode cX12_draws 44 = .ok (.getfield 51, 3) := by decide +kernel
theorem dX12_draws_47 : decode cX12_draws 47 = .ok (.iconst 5, 1) := by decide +kernel
theorem dX12_draws_48 : decode cX12_draws 48 = .ok (.iload_n 1, 1) := by decide +kernel
theorem dX12_draws_49 : decode cX12_draws 49 = .ok (.imul, 1) := by decide +kernel
theorem dX12_draws_50 : decode cX12_draws 50 = .ok (.iload 4, 2) := by decide +kernel
theorem dX12_draws_52 : decode cX12_draws 52 = .ok (.iadd, 1) := by decide +kernel
theorem dX12_draws_53 : decode cX12_draws 53 = .ok (.aload_n 0, 1) := by decide +kernel
theorem dX12_draws_54 : decode cX12_draws 54 = .ok (.bipush 13, 2) := by decide +kernel
theorem dX12_draws_56 : decode cX12_draws 56 = .ok (.invokevirtual 314, 3) := by decide +kernel
theorem dX12_draws_59 : decode cX12_draws 59 = .ok (.bipush 6, 2) := by decide +kernel
theorem dX12_draws_61 : decode cX12_draws 61 = .ok (.isub, 1) := by decide +kernel
theorem dX12_draws_62 : decode cX12_draws 62 = .ok (.iastore, 1) := by decide +kernel
theorem dX12_draws_63 : decode cX12_draws 63 = .ok (.iinc 4 1, 3) := by decide +kernel
theorem dX12_draws_66 : decode cX12_draws 66 = .ok (.goto (-29), 3) := by decide +kernel
theorem dX12_draws_69 : decode cX12_draws 69 = .ok (.iconst 0, 1) := by decide +kernel
theorem dX12_draws_70 : decode cX12_draws 70 = .ok (.istore 4, 2) := by decide +kernel
theorem dX12_draws_72 : decode cX12_draws 72 = .ok (.iload 4, 2) := by decide +kernel
theorem dX12_draws_74 : decode cX12_draws 74 = .ok (.iload_n 2, 1) := by decide +kernel
theorem dX12_draws_75 : decode cX12_draws 75 = .ok (.iconst 1, 1) := by decide +kernel
theorem dX12_draws_76 : decode cX12_draws 76 = .ok (.isub, 1) := by decide +kernel
theorem dX12_draws_77 : decode cX12_draws 77 = .ok (.if_icmp .ge 28, 3) := by decide +kernel
theorem dX12_draws_80 : decode cX12_draws 80 = .ok (.aload_n 0, 1) := by decide +kernel
theorem dX12_draws_81 : decode cX12_draws 81 = .ok (.getfield 54, 3) := by decide +kernel
theorem dX12_draws_84 : decode cX12_draws 84 = .ok (.iconst 5, 1) := by decide +kernel
theorem dX12_draws_85 : decode cX12_draws 85 = .ok (.iload_n 1, 1) := by decide +kernel
theorem dX12_draws_86 : decode cX12_draws 86 = .ok (.imul, 1) := by decide +kernel
theorem dX12_draws_87 : decode cX12_draws 87 = .ok (.iload 4, 2) := by decide +kernel
theorem dX12_draws_89 : decode cX12_draws 89 = .ok (.iadd, 1) := by decide +kernel
theorem dX12_draws_90 : decode cX12_draws 90 = .ok (.aload_n 0, 1) := by decide +kernel
theorem dX12_draws_91 : decode cX12_draws 91 = .ok (.bipush 36, 2) := by decide +kernel
theorem dX12_draws_93 : decode cX12_draws 93 = .ok (.invokevirtual 314, 3) := by decide +kernel
theorem dX12_draws_96 : decode cX12_draws 96 = .ok (.iconst 1, 1) := by decide +kernel
theorem dX12_draws_97 : decode cX12_draws 97 = .ok (.iadd, 1) := by decide +kernel
theorem dX12_draws_98 : decode cX12_draws 98 = .ok (.iastore, 1) := by decide +kernel
theorem dX12_draws_99 : decode cX12_draws 99 = .ok (.iinc 4 1, 3) := by decide +kernel
theorem dX12_draws_102 : decode cX12_draws 102 = .ok (.goto (-30), 3) := by decide +kernel
theorem dX12_draws_105 : decode cX12_draws 105 = .ok (.aload_n 0, 1) := by decide +kernel
theorem dX12_draws_106 : decode cX12_draws 106 = .ok (.getfield 309, 3) := by decide +kernel
theorem dX12_draws_109 : decode cX12_draws 109 = .ok (.ireturn, 1) := by decide +kernel
theorem dX12_isRival_0 : decode cX12_isRival 0 = .ok (.aload_n 0, 1) := by decide +kernel
theorem dX12_isRival_1 : decode cX12_isRival 1 = .ok (.getfield 48, 3) := by decide +kernel
theorem dX12_isRival_4 : decode cX12_isRival 4 = .ok (.iload_n 1, 1) := by decide +kernel
theorem dX12_isRival_5 : decode cX12_isRival 5 = .ok (.iaload, 1) := by decide +kernel
theorem dX12_isRival_6 : decode cX12_isRival 6 = .ok (.istore_n 3, 1) := by decide +kernel
theorem dX12_isRival_7 : decode cX12_isRival 7 = .ok (.iload_n 2, 1) := by decide +kernel
theorem dX12_isRival_8 : decode cX12_isRival 8 = .ok (.ifCond .ne 22, 3) := by decide +kernel
theorem dX12_isRival_11 : decode cX12_isRival 11 = .ok (.aload_n 0, 1) := by decide +kernel
theorem dX12_isRival_12 : decode cX12_isRival 12 = .ok (.iload_n 1, 1) := by decide +kernel
theorem dX12_isRival_13 : decode cX12_isRival 13 = .ok (.iconst 0, 1) := by decide +kernel
theorem dX12_isRival_14 : decode cX12_isRival 14 = .ok (.iload_n 3, 1) := by decide +kernel
theorem dX12_isRival_15 : decode cX12_isRival 15 = .ok (.invokevirtual 292, 3) := by decide +kernel
theorem dX12_isRival_18 : decode cX12_isRival 18 = .ok (.iload_n 3, 1) := by decide +kernel
theorem dX12_isRival_19 : decode cX12_isRival 19 = .ok (.if_icmp .ne 7, 3) := by decide +kernel
theorem dX12_isRival_22 : decode cX12_isRival 22 = .ok (.iconst 1, 1) := by decide +kernel
theorem dX12_isRival_23 : decode cX12_isRival 23 = .ok (.goto 50, 3) := by decide +kernel
theorem dX12_isRival_26 : decode cX12_isRival 26 = .ok (.iconst 0, 1) := by decide +kernel
theorem dX12_isRival_27 : decode cX12_isRival 27 = .ok (.goto 46, 3) := by decide +kernel
theorem dX12_isRival_30 : decode cX12_isRival 30 = .ok (.iload_n 2, 1) := by decide +kernel
theorem dX12_isRival_31 : decode cX12_isRival 31 = .ok (.iconst 1, 1) := by decide +kernel
theorem dX12_isRival_32 : decode cX12_isRival 32 = .ok (.if_icmp .ne 24, 3) := by decide +kernel
theorem dX12_isRival_35 : decode cX12_isRival 35 = .ok (.aload_n 0, 1) := by decide +kernel
theorem dX12_isRival_36 : decode cX12_isRival 36 = .ok (.iload_n 1, 1) := by decide +kernel
theorem dX12_isRival_37 : decode cX12_isRival 37 = .ok (.iconst 0, 1) := by decide +kernel
theorem dX12_isRival_38 : decode cX12_isRival 38 = .ok (.iload_n 3, 1) := by decide +kernel
theorem dX12_isRival_39 : decode cX12_isRival 39 = .ok (.lconst 0, 1) := by decide +kernel
theorem dX12_isRival_40 : decode cX12_isRival 40 = .ok (.invokevirtual 279, 3) := by decide +kernel
theorem dX12_isRival_43 : decode cX12_isRival 43 = .ok (.lconst 0, 1) := by decide +kernel
theorem dX12_isRival_44 : decode cX12_isRival 44 = .ok (.lcmp, 1) := by decide +kernel
theorem dX12_isRival_45 : decode cX12_isRival 45 = .ok (.ifCond .ne 7, 3) := by decide +kernel
theorem dX12_isRival_48 : decode cX12_isRival 48 = .ok (.iconst 1, 1) := by decide +kernel
theorem dX12_isRival_49 : decode cX12_isRival 49 = .ok (.goto 24, 3) := by decide +kernel
theorem dX12_isRival_52 : decode cX12_isRival 52 = .ok (.iconst 0, 1) := by decide +kernel
theorem dX12_isRival_53 : decode cX12_isRival 53 = .ok (.goto 20, 3) := by decide +kernel
theorem dX12_isRival_56 : decode cX12_isRival 56 = .ok (.aload_n 0, 1) := by decide +kernel
theorem dX12_isRival_57 : decode cX12_isRival 57 = .ok (.iload_n 1, 1) := by decide +kernel
theorem dX12_isRival_58 : decode cX12_isRival 58 = .ok (.iconst 0, 1) := by decide +kernel
theorem dX12_isRival_59 : decode cX12_isRival 59 = .ok (.iload_n 3, 1) := by decide +kernel
theorem dX12_isRival_60 : decode cX12_isRival 60 = .ok (.iconst 0, 1) := by decide +kernel
theorem dX12_isRival_61 : decode cX12_isRival 61 = .ok (.iconst 1, 1) := by decide +kernel
theorem dX12_isRival_62 : decode cX12_isRival 62 = .ok (.invokevirtual 283, 3) := by decide +kernel
theorem dX12_isRival_65 : decode cX12_isRival 65 = .ok (.ifCond .ne 7, 3) := by decide +kernel
theorem dX12_isRival_68 : decode cX12_isRival 68 = .ok (.iconst 1, 1) := by decide +kernel
theorem dX12_isRival_69 : decode cX12_isRival 69 = .ok (.goto 4, 3) := by decide +kernel
theorem dX12_isRival_72 : decode cX12_isRival 72 = .ok (.iconst 0, 1) := by decide +kernel
theorem dX12_isRival_73 : decode cX12_isRival 73 = .ok (.ireturn, 1) := by decide +kernel
theorem dX12_rivals_0 : decode cX12_rivals 0 = .ok (.iload_n 1, 1) := by decide +kernel
theorem dX12_rivals_1 : decode cX12_rivals 1 = .ok (.invokestatic 253, 3) := by decide +kernel
theorem dX12_rivals_4 : decode cX12_rivals 4 = .ok (.ifCond .eq 12, 3) := by decide +kernel
theorem dX12_rivals_7 : decode cX12_rivals 7 = .ok (.iload_n 2, 1) := by decide +kernel
theorem dX12_rivals_8 : decode cX12_rivals 8 = .ok (.iconst 0, 1) := by decide +kernel
theorem dX12_rivals_9 : decode cX12_rivals 9 = .ok (.iconst 2, 1) := by decide +kernel
theorem dX12_rivals_10 : decode cX12_rivals 10 = .ok (.invokestatic 134, 3) := by decide +kernel
theorem dX12_rivals_13 : decode cX12_rivals 13 = .ok (.ifCond .ne 5, 3) := by decide +kernel
theorem dX12_rivals_16 : decode cX12_rivals 16 = .ok (.iconst (-1), 1) := by decide +kernel
theorem dX12_rivals_17 : decode cX12_rivals 17 = .ok (.ireturn, 1) := by decide +kernel
theorem dX12_rivals_18 : decode cX12_rivals 18 = .ok (.aload_n 0, 1) := by decide +kernel
theorem dX12_rivals_19 : decode cX12_rivals 19 = .ok (.getfield 48, 3) := by decide +kernel
theorem dX12_rivals_22 : decode cX12_rivals 22 = .ok (.iload_n 1, 1) := by decide +kernel
theorem dX12_rivals_23 : decode cX12_rivals 23 = .ok (.iaload, 1) := by decide +kernel
theorem dX12_rivals_24 : decode cX12_rivals 24 = .ok (.ifCond .ne 6, 3) := by decide +kernel
theorem dX12_rivals_27 : decode cX12_rivals 27 = .ok (.bipush (-2), 2) := by decide +kernel
theorem dX12_rivals_29 : decode cX12_rivals 29 = .ok (.ireturn, 1) := by decide +kernel
theorem dX12_rivals_30 : decode cX12_rivals 30 = .ok (.iconst 0, 1) := by decide +kernel
theorem dX12_rivals_31 : decode cX12_rivals 31 = .ok (.istore 4, 2) := by decide +kernel
theorem dX12_rivals_33 : decode cX12_rivals 33 = .ok (.iconst (-1), 1) := by decide +kernel
theorem dX12_rivals_34 : decode cX12_rivals 34 = .ok (.istore 5, 2) := by decide +kernel
theorem dX12_rivals_36 : decode cX12_rivals 36 = .ok (.iconst 0, 1) := by decide +kernel
theorem dX12_rivals_37 : decode cX12_rivals 37 = .ok (.istore 6, 2) := by decide +kernel
theorem dX12_rivals_39 : decode cX12_rivals 39 = .ok (.iload 6, 2) := by decide +kernel
theorem dX12_rivals_41 : decode cX12_rivals 41 = .ok (.iconst 2, 1) := by decide +kernel
theorem dX12_rivals_42 : decode cX12_rivals 42 = .ok (.aload_n 0, 1) := by decide +kernel
theorem dX12_rivals_43 : decode cX12_rivals 43 = .ok (.getfield 48, 3) := by decide +kernel
theorem dX12_rivals_46 : decode cX12_rivals 46 = .ok (.iload_n 1, 1) := by decide +kernel
theorem dX12_rivals_47 : decode cX12_rivals 47 = .ok (.iaload, 1) := by decide +kernel
theorem dX12_rivals_48 : decode cX12_rivals 48 = .ok (.imul, 1) := by decide +kernel
theorem dX12_rivals_49 : decode cX12_rivals 49 = .ok (.iconst 1, 1) := by decide +kernel
theorem dX12_rivals_50 : decode cX12_rivals 50 = .ok (.isub, 1) := by decide +kernel
theorem dX12_rivals_51 : decode cX12_rivals 51 = .ok (.if_icmp .ge 199, 3) := by decide +kernel
theorem dX12_rivals_54 : decode cX12_rivals 54 = .ok (.iload 6, 2) := by decide +kernel
theorem dX12_rivals_56 : decode cX12_rivals 56 = .ok (.aload_n 0, 1) := by decide +kernel
theorem dX12_rivals_57 : decode cX12_rivals 57 = .ok (.getfield 48, 3) := by decide +kernel
theorem dX12_rivals_60 : decode cX12_rivals 60 = .ok (.iload_n 1, 1) := by decide +kernel
theorem dX12_rivals_61 : decode cX12_rivals 61 = .ok (.iaload, 1) := by decide +kernel
theorem dX12_rivals_62 : decode cX12_rivals 62 = .ok (.if_icmp .ge 7, 3) := by decide +kernel
theorem dX12_rivals_65 : decode cX12_rivals 65 = .ok (.iconst 1, 1) := by decide +kernel
theorem dX12_rivals_66 : decode cX12_rivals 66 = .ok (.goto 4, 3) := by decide +kernel
theorem dX12_rivals_69 : decode cX12_rivals 69 = .ok (.iconst 0, 1) := by decide +kernel
theorem dX12_rivals_70 : decode cX12_rivals 70 = .ok (.istore 7, 2) := by decide +kernel
theorem dX12_rivals_72 : decode cX12_rivals 72 = .ok (.iload 7, 2) := by decide +kernel
theorem dX12_rivals_74 : decode cX12_rivals 74 = .ok (.ifCond .eq 8, 3) := by decide +kernel
theorem dX12_rivals_77 : decode cX12_rivals 77 = .ok (.iload 6, 2) := by decide +kernel
theorem dX12_rivals_79 : decode cX12_rivals 79 = .ok (.goto 12, 3) := by decide +kernel
theorem dX12_rivals_82 : decode cX12_rivals 82 = .ok (.iload 6, 2) := by decide +kernel
theorem dX12_rivals_84 : decode cX12_rivals 84 = .ok (.aload_n 0, 1) := by decide +kernel
theorem dX12_rivals_85 : decode cX12_rivals 85 = .ok (.getfield 48, 3) := by decide +kernel
theorem dX12_rivals_88 : decode cX12_rivals 88 = .ok (.iload_n 1, 1) := by decide +kernel
theorem dX12_rivals_89 : decode cX12_rivals 89 = .ok (.iaload, 1) := by decide +kernel
theorem dX12_rivals_90 : decode cX12_rivals 90 = .ok (.isub, 1) := by decide +kernel
theorem dX12_rivals_91 : decode cX12_rivals 91 = .ok (.istore 8, 2) := by decide +kernel
theorem dX12_rivals_93 : decode cX12_rivals 93 = .ok (.iload 7, 2) := by decide +kernel
theorem dX12_rivals_95 : decode cX12_rivals 95 = .ok (.ifCond .eq 13, 3) := by decide +kernel
theorem dX12_rivals_98 : decode cX12_rivals 98 = .ok (.aload_n 0, 1) := by decide +kernel
theorem dX12_rivals_99 : decode cX12_rivals 99 = .ok (.iload_n 1, 1) := by decide +kernel
theorem dX12_rivals_100 : decode cX12_rivals 100 = .ok (.iload 8, 2) := by decide +kernel
theorem dX12_rivals_102 : decode cX12_rivals 102 = .ok (.invokevirtual 256, 3) := by decide +kernel
theorem dX12_rivals_105 : decode cX12_rivals 105 = .ok (.goto 10, 3) := by decide +kernel
theorem dX12_rivals_108 : decode cX12_rivals 108 = .ok (.aload_n 0, 1) := by decide +kernel
theorem dX12_rivals_109 : decode cX12_rivals 109 = .ok (.iload_n 1, 1) := by decide +kernel
theorem dX12_rivals_110 : decode cX12_rivals 110 = .ok (.iload 8, 2) := by decide +kernel
theorem dX12_rivals_112 : decode cX12_rivals 112 = .ok (.invokevirtual 260, 3) := by decide +kernel
theorem dX12_rivals_115 : decode cX12_rivals 115 = .ok (.istore 9, 2) := by decide +kernel
theorem dX12_rivals_117 : decode cX12_rivals 117 = .ok (.iload 7, 2) := by decide +kernel
theorem dX12_rivals_119 : decode cX12_rivals 119 = .ok (.ifCond .eq 8, 3) := by decide +kernel
theorem dX12_rivals_122 : decode cX12_rivals 122 = .ok (.bipush (-6), 2) := by decide +kernel
theorem dX12_rivals_124 : decode cX12_rivals 124 = .ok (.goto 4, 3) := by decide +kernel
theorem dX12_rivals_127 : decode cX12_rivals 127 = .ok (.iconst 1, 1) := by decide +kernel
theorem dX12_rivals_128 : decode cX12_rivals 128 = .ok (.istore 10, 2) := by decide +kernel
theorem dX12_rivals_130 : decode cX12_rivals 130 = .ok (.iload 10, 2) := by decide +kernel
theorem dX12_rivals_132 : decode cX12_rivals 132 = .ok (.iload 7, 2) := by decide +kernel
theorem dX12_rivals_134 : decode cX12_rivals 134 = .ok (.ifCond .eq 8, 3) := by decide +kernel
theorem dX12_rivals_137 : decode cX12_rivals 137 = .ok (.bipush 6, 2) := by decide +kernel
theorem dX12_rivals_139 : decode cX12_rivals 139 = .ok (.goto 5, 3) := by decide +kernel
theorem dX12_rivals_142 : decode cX12_rivals 142 = .ok (.bipush 36, 2) := by decide +kernel
theorem dX12_rivals_144 : decode cX12_rivals 144 = .ok (.if_icmp .gt 89, 3) := by decide +kernel
theorem dX12_rivals_147 : decode cX12_rivals 147 = .ok (.aload_n 0, 1) := by decide +kernel
theorem dX12_rivals_148 : decode cX12_rivals 148 = .ok (.iload_n 1, 1) := by decide +kernel
theorem dX12_rivals_149 : decode cX12_rivals 149 = .ok (.iload 7, 2) := by decide +kernel
theorem dX12_rivals_151 : decode cX12_rivals 151 = .ok (.iload 8, 2) := by decide +kernel
theorem dX12_rivals_153 : decode cX12_rivals 153 = .ok (.iload 10, 2) := by decide +kernel
theorem dX12_rivals_155 : decode cX12_rivals 155 = .ok (.invokevirtual 271, 3) := by decide +kernel
theorem dX12_rivals_158 : decode cX12_rivals 158 = .ok (.iload 10, 2) := by decide +kernel
theorem dX12_rivals_160 : decode cX12_rivals 160 = .ok (.iload 9, 2) := by decide +kernel
theorem dX12_rivals_162 : decode cX12_rivals 162 = .ok (.if_icmp .eq 65, 3) := by decide +kernel
theorem dX12_rivals_165 : decode cX12_rivals 165 = .ok (.aload_n 0, 1) := by decide +kernel
theorem dX12_rivals_166 : decode cX12_rivals 166 = .ok (.iload_n 1, 1) := by decide +kernel
theorem dX12_rivals_167 : decode cX12_rivals 167 = .ok (.iload_n 2, 1) := by decide +kernel
theorem dX12_rivals_168 : decode cX12_rivals 168 = .ok (.invokevirtual 317, 3) := by decide +kernel
theorem dX12_rivals_171 : decode cX12_rivals 171 = .ok (.ifCond .ne 6, 3) := by decide +kernel
theorem dX12_rivals_174 : decode cX12_rivals 174 = .ok (.goto 53, 3) := by decide +kernel
theorem dX12_rivals_177 : decode cX12_rivals 177 = .ok (.iload 4, 2) := by decide +kernel
theorem dX12_rivals_179 : decode cX12_rivals 179 = .ok (.iconst 1, 1) := by decide +kernel
theorem dX12_rivals_180 : decode cX12_rivals 180 = .ok (.iadd, 1) := by decide +kernel
theorem dX12_rivals_181 : decode cX12_rivals 181 = .ok (.istore 4, 2) := by decide +kernel
theorem dX12_rivals_183 : decode cX12_rivals 183 = .ok (.iload 5, 2) := by decide +kernel
theorem dX12_rivals_185 : decode cX12_rivals 185 = .ok (.iconst (-1), 1) := by decide +kernel
theorem dX12_rivals_186 : decode cX12_rivals 186 = .ok (.if_icmp .ne 37, 3) := by decide +kernel
theorem dX12_rivals_189 : decode cX12_rivals 189 = .ok (.iload 7, 2) := by decide +kernel
theorem dX12_rivals_191 : decode cX12_rivals 191 = .ok (.ifCond .eq 17, 3) := by decide +kernel
theorem dX12_rivals_194 : decode cX12_rivals 194 = .ok (.bipush 100, 2) := by decide +kernel
theorem dX12_rivals_196 : decode cX12_rivals 196 = .ok (.iload 8, 2) := by decide +kernel
theorem dX12_rivals_198 : decode cX12_rivals 198 = .ok (.imul, 1) := by decide +kernel
theorem dX12_rivals_199 : decode cX12_rivals 199 = .ok (.iload 10, 2) := by decide +kernel
theorem dX12_rivals_201 : decode cX12_rivals 201 = .ok (.iadd, 1) := by decide +kernel
theorem dX12_rivals_202 : decode cX12_rivals 202 = .ok (.bipush 6, 2) := by decide +kernel
theorem dX12_rivals_204 : decode cX12_rivals 204 = .ok (.iadd, 1) := by decide +kernel
theorem dX12_rivals_205 : decode cX12_rivals 205 = .ok (.goto 20, 3) := by decide +kernel
theorem dX12_rivals_208 : decode cX12_rivals 208 = .ok (.sipush 1000, 3) := by decide +kernel
theorem dX12_rivals_211 : decode cX12_rivals 211 = .ok (.bipush 100, 2) := by decide +kernel
theorem dX12_rivals_213 : decode cX12_rivals 213 = .ok (.iload 8, 2) := by decide +kernel
theorem dX12_rivals_215 : decode cX12_rivals 215 = .ok (.imul, 1) := by decide +kernel
theorem dX12_rivals_216 : decode cX12_rivals 216 = .ok (.iadd, 1) := by decide +kernel
theorem dX12_rivals_217 : decode cX12_rivals 217 = .ok (.iload 10, 2) := by decide +kernel
theorem dX12_rivals_219 : decode cX12_rivals 219 = .ok (.iadd, 1) := by decide +kernel
theorem dX12_rivals_220 : decode cX12_rivals 220 = .ok (.goto 5, 3) := by decide +kernel
theorem dX12_rivals_223 : decode cX12_rivals 223 = .ok (.iload 5, 2) := by decide +kernel
theorem dX12_rivals_225 : decode cX12_rivals 225 = .ok (.istore 5, 2) := by decide +kernel
theorem dX12_rivals_227 : decode cX12_rivals 227 = .ok (.iinc 10 1, 3) := by decide +kernel
theorem dX12_rivals_230 : decode cX12_rivals 230 = .ok (.goto (-100), 3) := by decide +kernel
theorem dX12_rivals_233 : decode cX12_rivals 233 = .ok (.aload_n 0, 1) := by decide +kernel
theorem dX12_rivals_234 : decode cX12_rivals 234 = .ok (.iload_n 1, 1) := by decide +kernel
theorem dX12_rivals_235 : decode cX12_rivals 235 = .ok (.iload 7, 2) := by decide +kernel
theorem dX12_rivals_237 : decode cX12_rivals 237 = .ok (.iload 8, 2) := by decide +kernel
theorem dX12_rivals_239 : decode cX12_rivals 239 = .ok (.iload 9, 2) := by decide +kernel
theorem dX12_rivals_241 : decode cX12_rivals 241 = .ok (.invokevirtual 271, 3) := by decide +kernel
theorem dX12_rivals_244 : decode cX12_rivals 244 = .ok (.iinc 6 1, 3) := by decide +kernel
theorem dX12_rivals_247 : decode cX12_rivals 247 = .ok (.goto (-208), 3) := by decide +kernel
theorem dX12_rivals_250 : decode cX12_rivals 250 = .ok (.iload_n 3, 1) := by decide +kernel
theorem dX12_rivals_251 : decode cX12_rivals 251 = .ok (.ifCond .eq 8, 3) := by decide +kernel
theorem dX12_rivals_254 : decode cX12_rivals 254 = .ok (.iload 5, 2) := by decide +kernel
theorem dX12_rivals_256 : decode cX12_rivals 256 = .ok (.goto 5, 3) := by decide +kernel
theorem dX12_rivals_259 : decode cX12_rivals 259 = .ok (.iload 4, 2) := by decide +kernel
theorem dX12_rivals_261 : decode cX12_rivals 261 = .ok (.ireturn, 1) := by decide +kernel
theorem dX12_isSquare_0 : decode cX12_isSquare 0 = .ok (.iconst 0, 1) := by decide +kernel
theorem dX12_isSquare_1 : decode cX12_isSquare 1 = .ok (.istore_n 1, 1) := by decide +kernel
theorem dX12_isSquare_2 : decode cX12_isSquare 2 = .ok (.iload_n 1, 1) := by decide +kernel
theorem dX12_isSquare_3 : decode cX12_isSquare 3 = .ok (.iload_n 1, 1) := by decide +kernel
theorem dX12_isSquare_4 : decode cX12_isSquare 4 = .ok (.imul, 1) := by decide +kernel
theorem dX12_isSquare_5 : decode cX12_isSquare 5 = .ok (.iload_n 0, 1) := by decide +kernel
theorem dX12_isSquare_6 : decode cX12_isSquare 6 = .ok (.if_icmp .ge 10, 3) := by decide +kernel
theorem dX12_isSquare_9 : decode cX12_isSquare 9 = .ok (.iload_n 1, 1) := by decide +kernel
theorem dX12_isSquare_10 : decode cX12_isSquare 10 = .ok (.iconst 1, 1) := by decide +kernel
theorem dX12_isSquare_11 : decode cX12_isSquare 11 = .ok (.iadd, 1) := by decide +kernel
theorem dX12_isSquare_12 : decode cX12_isSquare 12 = .ok (.istore_n 1, 1) := by decide +kernel
theorem dX12_isSquare_13 : decode cX12_isSquare 13 = .ok (.goto (-11), 3) := by decide +kernel
theorem dX12_isSquare_16 : decode cX12_isSquare 16 = .ok (.iload_n 1, 1) := by decide +kernel
theorem dX12_isSquare_17 : decode cX12_isSquare 17 = .ok (.iload_n 1, 1) := by decide +kernel
theorem dX12_isSquare_18 : decode cX12_isSquare 18 = .ok (.imul, 1) := by decide +kernel
theorem dX12_isSquare_19 : decode cX12_isSquare 19 = .ok (.iload_n 0, 1) := by decide +kernel
theorem dX12_isSquare_20 : decode cX12_isSquare 20 = .ok (.if_icmp .ne 7, 3) := by decide +kernel
theorem dX12_isSquare_23 : decode cX12_isSquare 23 = .ok (.iconst 1, 1) := by decide +kernel
theorem dX12_isSquare_24 : decode cX12_isSquare 24 = .ok (.goto 4, 3) := by decide +kernel
theorem dX12_isSquare_27 : decode cX12_isSquare 27 = .ok (.iconst 0, 1) := by decide +kernel
theorem dX12_isSquare_28 : decode cX12_isSquare 28 = .ok (.ireturn, 1) := by decide +kernel
theorem dX12_census_0 : decode cX12_census 0 = .ok (.iload_n 1, 1) := by decide +kernel
theorem dX12_census_1 : decode cX12_census 1 = .ok (.bipush (-12), 2) := by decide +kernel
theorem dX12_census_3 : decode cX12_census 3 = .ok (.bipush 12, 2) := by decide +kernel
theorem dX12_census_5 : decode cX12_census 5 = .ok (.invokestatic 134, 3) := by decide +kernel
theorem dX12_census_8 : decode cX12_census 8 = .ok (.ifCond .eq 12, 3) := by decide +kernel
theorem dX12_census_11 : decode cX12_census 11 = .ok (.iload_n 2, 1) := by decide +kernel
theorem dX12_census_12 : decode cX12_census 12 = .ok (.iconst 0, 1) := by decide +kernel
theorem dX12_census_13 : decode cX12_census 13 = .ok (.iconst 2, 1) := by decide +kernel
theorem dX12_census_14 : decode cX12_census 14 = .ok (.invokestatic 134, 3) := by decide +kernel
theorem dX12_census_17 : decode cX12_census 17 = .ok (.ifCond .ne 5, 3) := by decide +kernel
theorem dX12_census_20 : decode cX12_census 20 = .ok (.iconst (-1), 1) := by decide +kernel
theorem dX12_census_21 : decode cX12_census 21 = .ok (.ireturn, 1) := by decide +kernel
theorem dX12_census_22 : decode cX12_census 22 = .ok (.iconst 0, 1) := by decide +kernel
theorem dX12_census_23 : decode cX12_census 23 = .ok (.istore_n 3, 1) := by decide +kernel
theorem dX12_census_24 : decode cX12_census 24 = .ok (.bipush (-6), 2) := by decide +kernel
theorem dX12_census_26 : decode cX12_census 26 = .ok (.istore 4, 2) := by decide +kernel
theorem dX12_census_28 : decode cX12_census 28 = .ok (.iload 4, 2) := by decide +kernel
theorem dX12_census_30 : decode cX12_census 30 = .ok (.bipush 6, 2) := by decide +kernel
theorem dX12_census_32 : decode cX12_census 32 = .ok (.if_icmp .gt 126, 3) := by decide +kernel
theorem dX12_census_35 : decode cX12_census 35 = .ok (.iload_n 1, 1) := by decide +kernel
theorem dX12_census_36 : decode cX12_census 36 = .ok (.iload 4, 2) := by decide +kernel
theorem dX12_census_38 : decode cX12_census 38 = .ok (.isub, 1) := by decide +kernel
theorem dX12_census_39 : decode cX12_census 39 = .ok (.istore 5, 2) := by decide +kernel
theorem dX12_census_41 : decode cX12_census 41 = .ok (.iconst 1, 1) := by decide +kernel
theorem dX12_census_42 : decode cX12_census 42 = .ok (.istore 6, 2) := by decide +kernel
theorem dX12_census_44 : decode cX12_census 44 = .ok (.iload 6, 2) := by decide +kernel
theorem dX12_census_46 : decode cX12_census 46 = .ok (.bipush 36, 2) := by decide +kernel
theorem dX12_census_48 : decode cX12_census 48 = .ok (.if_icmp .gt 104, 3) := by decide +kernel
theorem dX12_census_51 : decode cX12_census 51 = .ok (.iload 5, 2) := by decide +kernel
theorem dX12_census_53 : decode cX12_census 53 = .ok (.bipush (-6), 2) := by decide +kernel
theorem dX12_census_55 : decode cX12_census 55 = .ok (.bipush 6, 2) := by decide +kernel
theorem dX12_census_57 : decode cX12_census 57 = .ok (.invokestatic 134, 3) := by decide +kernel
theorem dX12_census_60 : decode cX12_census 60 = .ok (.ifCond .eq 92, 3) := by decide +kernel
theorem dX12_census_63 : decode cX12_census 63 = .ok (.iload 4, 2) := by decide +kernel
theorem dX12_census_65 : decode cX12_census 65 = .ok (.iload 5, 2) := by decide +kernel
theorem dX12_census_67 : decode cX12_census 67 = .ok (.imul, 1) := by decide +kernel
theorem dX12_census_68 : decode cX12_census 68 = .ok (.iload 6, 2) := by decide +kernel
theorem dX12_census_70 : decode cX12_census 70 = .ok (.isub, 1) := by decide +kernel
theorem dX12_census_71 : decode cX12_census 71 = .ok (.istore 7, 2) := by decide +kernel
theorem dX12_census_73 : decode cX12_census 73 = .ok (.iload_n 2, 1) := by decide +kernel
theorem dX12_census_74 : decode cX12_census 74 = .ok (.ifCond .ne 25, 3) := by decide +kernel
theorem dX12_census_77 : decode cX12_census 77 = .ok (.iload 4, 2) := by decide +kernel
theorem dX12_census_79 : decode cX12_census 79 = .ok (.iload 5, 2) := by decide +kernel
theorem dX12_census_81 : decode cX12_census 81 = .ok (.isub, 1) := by decide +kernel
theorem dX12_census_82 : decode cX12_census 82 = .ok (.iload 4, 2) := by decide +kernel
theorem dX12_census_84 : decode cX12_census 84 = .ok (.iload 5, 2) := by decide +kernel
theorem dX12_census_86 : decode cX12_census 86 = .ok (.isub, 1) := by decide +kernel
theorem dX12_census_87 : decode cX12_census 87 = .ok (.imul, 1) := by decide +kernel
theorem dX12_census_88 : decode cX12_census 88 = .ok (.iconst 4, 1) := by decide +kernel
theorem dX12_census_89 : decode cX12_census 89 = .ok (.iload 6, 2) := by decide +kernel
theorem dX12_census_91 : decode cX12_census 91 = .ok (.imul, 1) := by decide +kernel
theorem dX12_census_92 : decode cX12_census 92 = .ok (.iadd, 1) := by decide +kernel
theorem dX12_census_93 : decode cX12_census 93 = .ok (.invokestatic 320, 3) := by decide +kernel
theorem dX12_census_96 : decode cX12_census 96 = .ok (.goto 35, 3) := by decide +kernel
theorem dX12_census_99 : decode cX12_census 99 = .ok (.iload_n 2, 1) := by decide +kernel
theorem dX12_census_100 : decode cX12_census 100 = .ok (.iconst 1, 1) := by decide +kernel
theorem dX12_census_101 : decode cX12_census 101 = .ok (.if_icmp .ne 20, 3) := by decide +kernel
theorem dX12_census_104 : decode cX12_census 104 = .ok (.iload_n 1, 1) := by decide +kernel
theorem dX12_census_105 : decode cX12_census 105 = .ok (.ifCond .lt 12, 3) := by decide +kernel
theorem dX12_census_108 : decode cX12_census 108 = .ok (.iload 7, 2) := by decide +kernel
theorem dX12_census_110 : decode cX12_census 110 = .ok (.ifCond .lt 7, 3) := by decide +kernel
theorem dX12_census_113 : decode cX12_census 113 = .ok (.iconst 1, 1) := by decide +kernel
theorem dX12_census_114 : decode cX12_census 114 = .ok (.goto 17, 3) := by decide +kernel
theorem dX12_census_117 : decode cX12_census 117 = .ok (.iconst 0, 1) := by decide +kernel
theorem dX12_census_118 : decode cX12_census 118 = .ok (.goto 13, 3) := by decide +kernel
theorem dX12_census_121 : decode cX12_census 121 = .ok (.iload 7, 2) := by decide +kernel
theorem dX12_census_123 : decode cX12_census 123 = .ok (.ifCond .ne 7, 3) := by decide +kernel
theorem dX12_census_126 : decode cX12_census 126 = .ok (.iconst 1, 1) := by decide +kernel
theorem dX12_census_127 : decode cX12_census 127 = .ok (.goto 4, 3) := by decide +kernel
theorem dX12_census_130 : decode cX12_census 130 = .ok (.iconst 0, 1) := by decide +kernel
theorem dX12_census_131 : decode cX12_census 131 = .ok (.istore 8, 2) := by decide +kernel
theorem dX12_census_133 : decode cX12_census 133 = .ok (.iload_n 3, 1) := by decide +kernel
theorem dX12_census_134 : decode cX12_census 134 = .ok (.iload 8, 2) := by decide +kernel
theorem dX12_census_136 : decode cX12_census 136 = .ok (.ifCond .eq 7, 3) := by decide +kernel
theorem dX12_census_139 : decode cX12_census 139 = .ok (.iconst 1, 1) := by decide +kernel
theorem dX12_census_140 : decode cX12_census 140 = .ok (.goto 4, 3) := by decide +kernel
theorem dX12_census_143 : decode cX12_census 143 = .ok (.iconst 0, 1) := by decide +kernel
theorem dX12_census_144 : decode cX12_census 144 = .ok (.iadd, 1) := by decide +kernel
theorem dX12_census_145 : decode cX12_census 145 = .ok (.istore_n 3, 1) := by decide +kernel
theorem dX12_census_146 : decode cX12_census 146 = .ok (.iinc 6 1, 3) := by decide +kernel
theorem dX12_census_149 : decode cX12_census 149 = .ok (.goto (-105), 3) := by decide +kernel
theorem dX12_census_152 : decode cX12_census 152 = .ok (.iinc 4 1, 3) := by decide +kernel
theorem dX12_census_155 : decode cX12_census 155 = .ok (.goto (-127), 3) := by decide +kernel
theorem dX12_census_158 : decode cX12_census 158 = .ok (.iload_n 3, 1) := by decide +kernel
theorem dX12_census_159 : decode cX12_census 159 = .ok (.ireturn, 1) := by decide +kernel
theorem dX12_goesOn_0 : decode cX12_goesOn 0 = .ok (.aload_n 0, 1) := by decide +kernel
theorem dX12_goesOn_1 : decode cX12_goesOn 1 = .ok (.getfield 145, 3) := by decide +kernel
theorem dX12_goesOn_4 : decode cX12_goesOn 4 = .ok (.iconst 1, 1) := by decide +kernel
theorem dX12_goesOn_5 : decode cX12_goesOn 5 = .ok (.if_icmp .ne 27, 3) := by decide +kernel
theorem dX12_goesOn_8 : decode cX12_goesOn 8 = .ok (.aload_n 0, 1) := by decide +kernel
theorem dX12_goesOn_9 : decode cX12_goesOn 9 = .ok (.aload_n 0, 1) := by decide +kernel
theorem dX12_goesOn_10 : decode cX12_goesOn 10 = .ok (.getfield 323, 3) := by decide +kernel
theorem dX12_goesOn_13 : decode cX12_goesOn 13 = .ok (.iconst 1, 1) := by decide +kernel
theorem dX12_goesOn_14 : decode cX12_goesOn 14 = .ok (.iadd, 1) := by decide +kernel
theorem dX12_goesOn_15 : decode cX12_goesOn 15 = .ok (.putfield 323, 3) := by decide +kernel
theorem dX12_goesOn_18 : decode cX12_goesOn 18 = .ok (.aload_n 0, 1) := by decide +kernel
theorem dX12_goesOn_19 : decode cX12_goesOn 19 = .ok (.getfield 323, 3) := by decide +kernel
theorem dX12_goesOn_22 : decode cX12_goesOn 22 = .ok (.iconst 1, 1) := by decide +kernel
theorem dX12_goesOn_23 : decode cX12_goesOn 23 = .ok (.if_icmp .ne 7, 3) := by decide +kernel
theorem dX12_goesOn_26 : decode cX12_goesOn 26 = .ok (.iconst 1, 1) := by decide +kernel
theorem dX12_goesOn_27 : decode cX12_goesOn 27 = .ok (.goto 4, 3) := by decide +kernel
theorem dX12_goesOn_30 : decode cX12_goesOn 30 = .ok (.iconst 0, 1) := by decide +kernel
theorem dX12_goesOn_31 : decode cX12_goesOn 31 = .ok (.ireturn, 1) := by decide +kernel
theorem dX12_goesOn_32 : decode cX12_goesOn 32 = .ok (.iconst 0, 1) := by decide +kernel
theorem dX12_goesOn_33 : decode cX12_goesOn 33 = .ok (.istore_n 1, 1) := by decide +kernel
theorem dX12_goesOn_34 : decode cX12_goesOn 34 = .ok (.iload_n 1, 1) := by decide +kernel
theorem dX12_goesOn_35 : decode cX12_goesOn 35 = .ok (.ifCond .ne 142, 3) := by decide +kernel
theorem dX12_goesOn_38 : decode cX12_goesOn 38 = .ok (.aload_n 0, 1) := by decide +kernel
theorem dX12_goesOn_39 : decode cX12_goesOn 39 = .ok (.getfield 323, 3) := by decide +kernel
theorem dX12_goesOn_42 : decode cX12_goesOn 42 = .ok (.bipush 6, 2) := by decide +kernel
theorem dX12_goesOn_44 : decode cX12_goesOn 44 = .ok (.if_icmp .gt 133, 3) := by decide +kernel
theorem dX12_goesOn_47 : decode cX12_goesOn 47 = .ok (.aload_n 0, 1) := by decide +kernel
theorem dX12_goesOn_48 : decode cX12_goesOn 48 = .ok (.getfield 145, 3) := by decide +kernel
theorem dX12_goesOn_51 : decode cX12_goesOn 51 = .ok (.iconst 2, 1) := by decide +kernel
theorem dX12_goesOn_52 : decode cX12_goesOn 52 = .ok (.if_icmp .ne 96, 3) := by decide +kernel
theorem dX12_goesOn_55 : decode cX12_goesOn 55 = .ok (.aload_n 0, 1) := by decide +kernel
theorem dX12_goesOn_56 : decode cX12_goesOn 56 = .ok (.aload_n 0, 1) := by decide +kernel
theorem dX12_goesOn_57 : decode cX12_goesOn 57 = .ok (.getfield 323, 3) := by decide +kernel
theorem dX12_goesOn_60 : decode cX12_goesOn 60 = .ok (.iconst 1, 1) := by decide +kernel
theorem dX12_goesOn_61 : decode cX12_goesOn 61 = .ok (.iadd, 1) := by decide +kernel
theorem dX12_goesOn_62 : decode cX12_goesOn 62 = .ok (.putfield 323, 3) := by decide +kernel
theorem dX12_goesOn_65 : decode cX12_goesOn 65 = .ok (.aload_n 0, 1) := by decide +kernel
theorem dX12_goesOn_66 : decode cX12_goesOn 66 = .ok (.aload_n 0, 1) := by decide +kernel
theorem dX12_goesOn_67 : decode cX12_goesOn 67 = .ok (.getfield 26, 3) := by decide +kernel
theorem dX12_goesOn_70 : decode cX12_goesOn 70 = .ok (.iconst 1, 1) := by decide +kernel
theorem dX12_goesOn_71 : decode cX12_goesOn 71 = .ok (.laload, 1) := by decide +kernel
theorem dX12_goesOn_72 : decode cX12_goesOn 72 = .ok (.lneg, 1) := by decide +kernel
theorem dX12_goesOn_73 : decode cX12_goesOn 73 = .ok (.l2i, 1) := by decide +kernel
theorem dX12_goesOn_74 : decode cX12_goesOn 74 = .ok (.aload_n 0, 1) := by decide +kernel
theorem dX12_goesOn_75 : decode cX12_goesOn 75 = .ok (.getfield 323, 3) := by decide +kernel
theorem dX12_goesOn_78 : decode cX12_goesOn 78 = .ok (.isub, 1) := by decide +kernel
theorem dX12_goesOn_79 : decode cX12_goesOn 79 = .ok (.putfield 326, 3) := by decide +kernel
theorem dX12_goesOn_82 : decode cX12_goesOn 82 = .ok (.aload_n 0, 1) := by decide +kernel
theorem dX12_goesOn_83 : decode cX12_goesOn 83 = .ok (.aload_n 0, 1) := by decide +kernel
theorem dX12_goesOn_84 : decode cX12_goesOn 84 = .ok (.getfield 323, 3) := by decide +kernel
theorem dX12_goesOn_87 : decode cX12_goesOn 87 = .ok (.aload_n 0, 1) := by decide +kernel
theorem dX12_goesOn_88 : decode cX12_goesOn 88 = .ok (.getfield 326, 3) := by decide +kernel
theorem dX12_goesOn_91 : decode cX12_goesOn 91 = .ok (.imul, 1) := by decide +kernel
theorem dX12_goesOn_92 : decode cX12_goesOn 92 = .ok (.aload_n 0, 1) := by decide +kernel
theorem dX12_goesOn_93 : decode cX12_goesOn 93 = .ok (.getfield 26, 3) := by decide +kernel
theorem dX12_goesOn_96 : decode cX12_goesOn 96 = .ok (.iconst 0, 1) := by decide +kernel
theorem dX12_goesOn_97 : decode cX12_goesOn 97 = .ok (.laload, 1) := by decide +kernel
theorem dX12_goesOn_98 : decode cX12_goesOn 98 = .ok (.l2i, 1) := by decide +kernel
theorem dX12_goesOn_99 : decode cX12_goesOn 99 = .ok (.isub, 1) := by decide +kernel
theorem dX12_goesOn_100 : decode cX12_goesOn 100 = .ok (.putfield 329, 3) := by decide +kernel
theorem dX12_goesOn_103 : decode cX12_goesOn 103 = .ok (.aload_n 0, 1) := by decide +kernel
theorem dX12_goesOn_104 : decode cX12_goesOn 104 = .ok (.getfield 323, 3) := by decide +kernel
theorem dX12_goesOn_107 : decode cX12_goesOn 107 = .ok (.bipush 6, 2) := by decide +kernel
theorem dX12_goesOn_109 : decode cX12_goesOn 109 = .ok (.if_icmp .gt 34, 3) := by decide +kernel
theorem dX12_goesOn_112 : decode cX12_goesOn 112 = .ok (.aload_n 0, 1) := by decide +kernel
theorem dX12_goesOn_113 : decode cX12_goesOn 113 = .ok (.getfield 326, 3) := by decide +kernel
theorem dX12_goesOn_116 : decode cX12_goesOn 116 = .ok (.bipush (-6), 2) := by decide +kernel
theorem dX12_goesOn_118 : decode cX12_goesOn 118 = .ok (.bipush 6, 2) := by decide +kernel
theorem dX12_goesOn_120 : decode cX12_goesOn 120 = .ok (.invokestatic 134, 3) := by decide +kernel
theorem dX12_goesOn_123 : decode cX12_goesOn 123 = .ok (.ifCond .eq 20, 3) := by decide +kernel
theorem dX12_goesOn_126 : decode cX12_goesOn 126 = .ok (.aload_n 0, 1) := by decide +kernel
theorem dX12_goesOn_127 : decode cX12_goesOn 127 = .ok (.getfield 329, 3) := by decide +kernel
theorem dX12_goesOn_130 : decode cX12_goesOn 130 = .ok (.iconst 1, 1) := by decide +kernel
theorem dX12_goesOn_131 : decode cX12_goesOn 131 = .ok (.bipush 36, 2) := by decide +kernel
theorem dX12_goesOn_133 : decode cX12_goesOn 133 = .ok (.invokestatic 134, 3) := by decide +kernel
theorem dX12_goesOn_136 : decode cX12_goesOn 136 = .ok (.ifCond .eq 7, 3) := by decide +kernel
theorem dX12_goesOn_139 : decode cX12_goesOn 139 = .ok (.iconst 1, 1) := by decide +kernel
theorem dX12_goesOn_140 : decode cX12_goesOn 140 = .ok (.goto 4, 3) := by decide +kernel
theorem dX12_goesOn_143 : decode cX12_goesOn 143 = .ok (.iconst 0, 1) := by decide +kernel
theorem dX12_goesOn_144 : decode cX12_goesOn 144 = .ok (.istore_n 1, 1) := by decide +kernel
theorem dX12_goesOn_145 : decode cX12_goesOn 145 = .ok (.goto (-111), 3) := by decide +kernel
theorem dX12_goesOn_148 : decode cX12_goesOn 148 = .ok (.aload_n 0, 1) := by decide +kernel
theorem dX12_goesOn_149 : decode cX12_goesOn 149 = .ok (.invokevirtual 332, 3) := by decide +kernel
theorem dX12_goesOn_152 : decode cX12_goesOn 152 = .ok (.aload_n 0, 1) := by decide +kernel
theorem dX12_goesOn_153 : decode cX12_goesOn 153 = .ok (.getfield 323, 3) := by decide +kernel
theorem dX12_goesOn_156 : decode cX12_goesOn 156 = .ok (.bipush 6, 2) := by decide +kernel
theorem dX12_goesOn_158 : decode cX12_goesOn 158 = .ok (.if_icmp .gt 14, 3) := by decide +kernel
theorem dX12_goesOn_161 : decode cX12_goesOn 161 = .ok (.aload_n 0, 1) := by decide +kernel
theorem dX12_goesOn_162 : decode cX12_goesOn 162 = .ok (.invokevirtual 335, 3) := by decide +kernel
theorem dX12_goesOn_165 : decode cX12_goesOn 165 = .ok (.ifCond .eq 7, 3) := by decide +kernel
theorem dX12_goesOn_168 : decode cX12_goesOn 168 = .ok (.iconst 1, 1) := by decide +kernel
theorem dX12_goesOn_169 : decode cX12_goesOn 169 = .ok (.goto 4, 3) := by decide +kernel
theorem dX12_goesOn_172 : decode cX12_goesOn 172 = .ok (.iconst 0, 1) := by decide +kernel
theorem dX12_goesOn_173 : decode cX12_goesOn 173 = .ok (.istore_n 1, 1) := by decide +kernel
theorem dX12_goesOn_174 : decode cX12_goesOn 174 = .ok (.goto (-140), 3) := by decide +kernel
theorem dX12_goesOn_177 : decode cX12_goesOn 177 = .ok (.iload_n 1, 1) := by decide +kernel
theorem dX12_goesOn_178 : decode cX12_goesOn 178 = .ok (.ireturn, 1) := by decide +kernel
theorem dX12_steps_0 : decode cX12_steps 0 = .ok (.aload_n 0, 1) := by decide +kernel
theorem dX12_steps_1 : decode cX12_steps 1 = .ok (.aload_n 0, 1) := by decide +kernel
theorem dX12_steps_2 : decode cX12_steps 2 = .ok (.getfield 329, 3) := by decide +kernel
theorem dX12_steps_5 : decode cX12_steps 5 = .ok (.iconst 1, 1) := by decide +kernel
theorem dX12_steps_6 : decode cX12_steps 6 = .ok (.iadd, 1) := by decide +kernel
theorem dX12_steps_7 : decode cX12_steps 7 = .ok (.putfield 329, 3) := by decide +kernel
theorem dX12_steps_10 : decode cX12_steps 10 = .ok (.aload_n 0, 1) := by decide +kernel
theorem dX12_steps_11 : decode cX12_steps 11 = .ok (.getfield 329, 3) := by decide +kernel
theorem dX12_steps_14 : decode cX12_steps 14 = .ok (.bipush 36, 2) := by decide +kernel
theorem dX12_steps_16 : decode cX12_steps 16 = .ok (.if_icmp .gt 4, 3) := by decide +kernel
theorem dX12_steps_19 : decode cX12_steps 19 = .ok (.return_, 1) := by decide +kernel
theorem dX12_steps_20 : decode cX12_steps 20 = .ok (.aload_n 0, 1) := by decide +kernel
theorem dX12_steps_21 : decode cX12_steps 21 = .ok (.iconst 1, 1) := by decide +kernel
theorem dX12_steps_22 : decode cX12_steps 22 = .ok (.putfield 329, 3) := by decide +kernel
theorem dX12_steps_25 : decode cX12_steps 25 = .ok (.aload_n 0, 1) := by decide +kernel
theorem dX12_steps_26 : decode cX12_steps 26 = .ok (.aload_n 0, 1) := by decide +kernel
theorem dX12_steps_27 : decode cX12_steps 27 = .ok (.getfield 326, 3) := by decide +kernel
theorem dX12_steps_30 : decode cX12_steps 30 = .ok (.iconst 1, 1) := by decide +kernel
theorem dX12_steps_31 : decode cX12_steps 31 = .ok (.iadd, 1) := by decide +kernel
theorem dX12_steps_32 : decode cX12_steps 32 = .ok (.putfield 326, 3) := by decide +kernel
theorem dX12_steps_35 : decode cX12_steps 35 = .ok (.aload_n 0, 1) := by decide +kernel
theorem dX12_steps_36 : decode cX12_steps 36 = .ok (.getfield 326, 3) := by decide +kernel
theorem dX12_steps_39 : decode cX12_steps 39 = .ok (.bipush 6, 2) := by decide +kernel
theorem dX12_steps_41 : decode cX12_steps 41 = .ok (.if_icmp .gt 4, 3) := by decide +kernel
theorem dX12_steps_44 : decode cX12_steps 44 = .ok (.return_, 1) := by decide +kernel
theorem dX12_steps_45 : decode cX12_steps 45 = .ok (.aload_n 0, 1) := by decide +kernel
theorem dX12_steps_46 : decode cX12_steps 46 = .ok (.bipush (-6), 2) := by decide +kernel
theorem dX12_steps_48 : decode cX12_steps 48 = .ok (.putfield 326, 3) := by decide +kernel
theorem dX12_steps_51 : decode cX12_steps 51 = .ok (.aload_n 0, 1) := by decide +kernel
theorem dX12_steps_52 : decode cX12_steps 52 = .ok (.aload_n 0, 1) := by decide +kernel
theorem dX12_steps_53 : decode cX12_steps 53 = .ok (.getfield 323, 3) := by decide +kernel
theorem dX12_steps_56 : decode cX12_steps 56 = .ok (.iconst 1, 1) := by decide +kernel
theorem dX12_steps_57 : decode cX12_steps 57 = .ok (.iadd, 1) := by decide +kernel
theorem dX12_steps_58 : decode cX12_steps 58 = .ok (.putfield 323, 3) := by decide +kernel
theorem dX12_steps_61 : decode cX12_steps 61 = .ok (.return_, 1) := by decide +kernel
theorem dX12_isTable_0 : decode cX12_isTable 0 = .ok (.aload_n 0, 1) := by decide +kernel
theorem dX12_isTable_1 : decode cX12_isTable 1 = .ok (.aload_n 0, 1) := by decide +kernel
theorem dX12_isTable_2 : decode cX12_isTable 2 = .ok (.getfield 26, 3) := by decide +kernel
theorem dX12_isTable_5 : decode cX12_isTable 5 = .ok (.iconst 2, 1) := by decide +kernel
theorem dX12_isTable_6 : decode cX12_isTable 6 = .ok (.laload, 1) := by decide +kernel
theorem dX12_isTable_7 : decode cX12_isTable 7 = .ok (.lneg, 1) := by decide +kernel
theorem dX12_isTable_8 : decode cX12_isTable 8 = .ok (.l2i, 1) := by decide +kernel
theorem dX12_isTable_9 : decode cX12_isTable 9 = .ok (.aload_n 0, 1) := by decide +kernel
theorem dX12_isTable_10 : decode cX12_isTable 10 = .ok (.getfield 323, 3) := by decide +kernel
theorem dX12_isTable_13 : decode cX12_isTable 13 = .ok (.isub, 1) := by decide +kernel
theorem dX12_isTable_14 : decode cX12_isTable 14 = .ok (.aload_n 0, 1) := by decide +kernel
theorem dX12_isTable_15 : decode cX12_isTable 15 = .ok (.getfield 326, 3) := by decide +kernel
theorem dX12_isTable_18 : decode cX12_isTable 18 = .ok (.isub, 1) := by decide +kernel
theorem dX12_isTable_19 : decode cX12_isTable 19 = .ok (.putfield 338, 3) := by decide +kernel
theorem dX12_isTable_22 : decode cX12_isTable 22 = .ok (.aload_n 0, 1) := by decide +kernel
theorem dX12_isTable_23 : decode cX12_isTable 23 = .ok (.aload_n 0, 1) := by decide +kernel
theorem dX12_isTable_24 : decode cX12_isTable 24 = .ok (.getfield 323, 3) := by decide +kernel
theorem dX12_isTable_27 : decode cX12_isTable 27 = .ok (.aload_n 0, 1) := by decide +kernel
theorem dX12_isTable_28 : decode cX12_isTable 28 = .ok (.getfield 326, 3) := by decide +kernel
theorem dX12_isTable_31 : decode cX12_isTable 31 = .ok (.imul, 1) := by decide +kernel
theorem dX12_isTable_32 : decode cX12_isTable 32 = .ok (.aload_n 0, 1) := by decide +kernel
theorem dX12_isTable_33 : decode cX12_isTable 33 = .ok (.getfield 323, 3) := by decide +kernel
theorem dX12_isTable_36 : decode cX12_isTable 36 = .ok (.aload_n 0, 1) := by decide +kernel
theorem dX12_isTable_37 : decode cX12_isTable 37 = .ok (.getfield 338, 3) := by decide +kernel
theorem dX12_isTable_40 : decode cX12_isTable 40 = .ok (.imul, 1) := by decide +kernel
theorem dX12_isTable_41 : decode cX12_isTable 41 = .ok (.iadd, 1) := by decide +kernel
theorem dX12_isTable_42 : decode cX12_isTable 42 = .ok (.aload_n 0, 1) := by decide +kernel
theorem dX12_isTable_43 : decode cX12_isTable 43 = .ok (.getfield 326, 3) := by decide +kernel
theorem dX12_isTable_46 : decode cX12_isTable 46 = .ok (.aload_n 0, 1) := by decide +kernel
theorem dX12_isTable_47 : decode cX12_isTable 47 = .ok (.getfield 338, 3) := by decide +kernel
theorem dX12_isTable_50 : decode cX12_isTable 50 = .ok (.imul, 1) := by decide +kernel
theorem dX12_isTable_51 : decode cX12_isTable 51 = .ok (.iadd, 1) := by decide +kernel
theorem dX12_isTable_52 : decode cX12_isTable 52 = .ok (.aload_n 0, 1) := by decide +kernel
theorem dX12_isTable_53 : decode cX12_isTable 53 = .ok (.getfield 329, 3) := by decide +kernel
theorem dX12_isTable_56 : decode cX12_isTable 56 = .ok (.isub, 1) := by decide +kernel
theorem dX12_isTable_57 : decode cX12_isTable 57 = .ok (.aload_n 0, 1) := by decide +kernel
theorem dX12_isTable_58 : decode cX12_isTable 58 = .ok (.getfield 26, 3) := by decide +kernel
theorem dX12_isTable_61 : decode cX12_isTable 61 = .ok (.iconst 1, 1) := by decide +kernel
theorem dX12_isTable_62 : decode cX12_isTable 62 = .ok (.laload, 1) := by decide +kernel
theorem dX12_isTable_63 : decode cX12_isTable 63 = .ok (.l2i, 1) := by decide +kernel
theorem dX12_isTable_64 : decode cX12_isTable 64 = .ok (.isub, 1) := by decide +kernel
theorem dX12_isTable_65 : decode cX12_isTable 65 = .ok (.putfield 341, 3) := by decide +kernel
theorem dX12_isTable_68 : decode cX12_isTable 68 = .ok (.aload_n 0, 1) := by decide +kernel
theorem dX12_isTable_69 : decode cX12_isTable 69 = .ok (.getfield 338, 3) := by decide +kernel
theorem dX12_isTable_72 : decode cX12_isTable 72 = .ok (.bipush (-6), 2) := by decide +kernel
theorem dX12_isTable_74 : decode cX12_isTable 74 = .ok (.bipush 6, 2) := by decide +kernel
theorem dX12_isTable_76 : decode cX12_isTable 76 = .ok (.invokestatic 134, 3) := by decide +kernel
theorem dX12_isTable_79 : decode cX12_isTable 79 = .ok (.ifCond .eq 66, 3) := by decide +kernel
theorem dX12_isTable_82 : decode cX12_isTable 82 = .ok (.aload_n 0, 1) := by decide +kernel
theorem dX12_isTable_83 : decode cX12_isTable 83 = .ok (.getfield 341, 3) := by decide +kernel
theorem dX12_isTable_86 : decode cX12_isTable 86 = .ok (.iconst 1, 1) := by decide +kernel
theorem dX12_isTable_87 : decode cX12_isTable 87 = .ok (.bipush 36, 2) := by decide +kernel
theorem dX12_isTable_89 : decode cX12_isTable 89 = .ok (.invokestatic 134, 3) := by decide +kernel
theorem dX12_isTable_92 : decode cX12_isTable 92 = .ok (.ifCond .eq 53, 3) := by decide +kernel
theorem dX12_isTable_95 : decode cX12_isTable 95 = .ok (.aload_n 0, 1) := by decide +kernel
theorem dX12_isTable_96 : decode cX12_isTable 96 = .ok (.getfield 323, 3) := by decide +kernel
theorem dX12_isTable_99 : decode cX12_isTable 99 = .ok (.aload_n 0, 1) := by decide +kernel
theorem dX12_isTable_100 : decode cX12_isTable 100 = .ok (.getfield 326, 3) := by decide +kernel
theorem dX12_isTable_103 : decode cX12_isTable 103 = .ok (.imul, 1) := by decide +kernel
theorem dX12_isTable_104 : decode cX12_isTable 104 = .ok (.aload_n 0, 1) := by decide +kernel
theorem dX12_isTable_105 : decode cX12_isTable 105 = .ok (.getfield 338, 3) := by decide +kernel
theorem dX12_isTable_108 : decode cX12_isTable 108 = .ok (.imul, 1) := by decide +kernel
theorem dX12_isTable_109 : decode cX12_isTable 109 = .ok (.aload_n 0, 1) := by decide +kernel
theorem dX12_isTable_110 : decode cX12_isTable 110 = .ok (.getfield 329, 3) := by decide +kernel
theorem dX12_isTable_113 : decode cX12_isTable 113 = .ok (.aload_n 0, 1) := by decide +kernel
theorem dX12_isTable_114 : decode cX12_isTable 114 = .ok (.getfield 338, 3) := by decide +kernel
theorem dX12_isTable_117 : decode cX12_isTable 117 = .ok (.imul, 1) := by decide +kernel
theorem dX12_isTable_118 : decode cX12_isTable 118 = .ok (.isub, 1) := by decide +kernel
theorem dX12_isTable_119 : decode cX12_isTable 119 = .ok (.aload_n 0, 1) := by decide +kernel
theorem dX12_isTable_120 : decode cX12_isTable 120 = .ok (.getfield 341, 3) := by decide +kernel
theorem dX12_isTable_123 : decode cX12_isTable 123 = .ok (.aload_n 0, 1) := by decide +kernel
theorem dX12_isTable_124 : decode cX12_isTable 124 = .ok (.getfield 323, 3) := by decide +kernel
theorem dX12_isTable_127 : decode cX12_isTable 127 = .ok (.imul, 1) := by decide +kernel
theorem dX12_isTable_128 : decode cX12_isTable 128 = .ok (.isub, 1) := by decide +kernel
theorem dX12_isTable_129 : decode cX12_isTable 129 = .ok (.i2l, 1) := by decide +kernel
theorem dX12_isTable_130 : decode cX12_isTable 130 = .ok (.aload_n 0, 1) := by decide +kernel
theorem dX12_isTable_131 : decode cX12_isTable 131 = .ok (.getfield 26, 3) := by decide +kernel
theorem dX12_isTable_134 : decode cX12_isTable 134 = .ok (.iconst 0, 1) := by decide +kernel
theorem dX12_isTable_135 : decode cX12_isTable 135 = .ok (.laload, 1) := by decide +kernel
theorem dX12_isTable_136 : decode cX12_isTable 136 = .ok (.lneg, 1) := by decide +kernel
theorem dX12_isTable_137 : decode cX12_isTable 137 = .ok (.lcmp, 1) := by decide +kernel
theorem dX12_isTable_138 : decode cX12_isTable 138 = .ok (.ifCond .ne 7, 3) := by decide +kernel
theorem dX12_isTable_141 : decode cX12_isTable 141 = .ok (.iconst 1, 1) := by decide +kernel
theorem dX12_isTable_142 : decode cX12_isTable 142 = .ok (.goto 4, 3) := by decide +kernel
theorem dX12_isTable_145 : decode cX12_isTable 145 = .ok (.iconst 0, 1) := by decide +kernel
theorem dX12_isTable_146 : decode cX12_isTable 146 = .ok (.ireturn, 1) := by decide +kernel
theorem dX12_begin0_0 : decode cX12_begin0 0 = .ok (.aload_n 0, 1) := by decide +kernel
theorem dX12_begin0_1 : decode cX12_begin0 1 = .ok (.invokevirtual 158, 3) := by decide +kernel
theorem dX12_begin0_4 : decode cX12_begin0 4 = .ok (.aload_n 0, 1) := by decide +kernel
theorem dX12_begin0_5 : decode cX12_begin0 5 = .ok (.aload_n 0, 1) := by decide +kernel
theorem dX12_begin0_6 : decode cX12_begin0 6 = .ok (.getfield 145, 3) := by decide +kernel
theorem dX12_begin0_9 : decode cX12_begin0 9 = .ok (.iconst 1, 1) := by decide +kernel
theorem dX12_begin0_10 : decode cX12_begin0 10 = .ok (.if_icmp .ne 7, 3) := by decide +kernel
theorem dX12_begin0_13 : decode cX12_begin0 13 = .ok (.iconst 0, 1) := by decide +kernel
theorem dX12_begin0_14 : decode cX12_begin0 14 = .ok (.goto 18, 3) := by decide +kernel
theorem dX12_begin0_17 : decode cX12_begin0 17 = .ok (.aload_n 0, 1) := by decide +kernel
theorem dX12_begin0_18 : decode cX12_begin0 18 = .ok (.getfield 145, 3) := by decide +kernel
theorem dX12_begin0_21 : decode cX12_begin0 21 = .ok (.iconst 2, 1) := by decide +kernel
theorem dX12_begin0_22 : decode cX12_begin0 22 = .ok (.if_icmp .ne 8, 3) := by decide +kernel
theorem dX12_begin0_25 : decode cX12_begin0 25 = .ok (.bipush (-7), 2) := by decide +kernel
theorem dX12_begin0_27 : decode cX12_begin0 27 = .ok (.goto 5, 3) := by decide +kernel
theorem dX12_begin0_30 : decode cX12_begin0 30 = .ok (.bipush (-6), 2) := by decide +kernel
theorem dX12_begin0_32 : decode cX12_begin0 32 = .ok (.putfield 323, 3) := by decide +kernel
theorem dX12_begin0_35 : decode cX12_begin0 35 = .ok (.aload_n 0, 1) := by decide +kernel
theorem dX12_begin0_36 : decode cX12_begin0 36 = .ok (.bipush (-6), 2) := by decide +kernel
theorem dX12_begin0_38 : decode cX12_begin0 38 = .ok (.putfield 326, 3) := by decide +kernel
theorem dX12_begin0_41 : decode cX12_begin0 41 = .ok (.aload_n 0, 1) := by decide +kernel
theorem dX12_begin0_42 : decode cX12_begin0 42 = .ok (.iconst 0, 1) := by decide +kernel
theorem dX12_begin0_43 : decode cX12_begin0 43 = .ok (.putfield 329, 3) := by decide +kernel
theorem dX12_begin0_46 : decode cX12_begin0 46 = .ok (.return_, 1) := by decide +kernel
theorem dX12_first_0 : decode cX12_first 0 = .ok (.aload_n 0, 1) := by decide +kernel
theorem dX12_first_1 : decode cX12_first 1 = .ok (.getfield 145, 3) := by decide +kernel
theorem dX12_first_4 : decode cX12_first 4 = .ok (.iconst 1, 1) := by decide +kernel
theorem dX12_first_5 : decode cX12_first 5 = .ok (.if_icmp .ne 12, 3) := by decide +kernel
theorem dX12_first_8 : decode cX12_first 8 = .ok (.aload_n 0, 1) := by decide +kernel
theorem dX12_first_9 : decode cX12_first 9 = .ok (.getfield 20, 3) := by decide +kernel
theorem dX12_first_12 : decode cX12_first 12 = .ok (.iconst 0, 1) := by decide +kernel
theorem dX12_first_13 : decode cX12_first 13 = .ok (.iaload, 1) := by decide +kernel
theorem dX12_first_14 : decode cX12_first 14 = .ok (.goto 7, 3) := by decide +kernel
theorem dX12_first_17 : decode cX12_first 17 = .ok (.aload_n 0, 1) := by decide +kernel
theorem dX12_first_18 : decode cX12_first 18 = .ok (.getfield 323, 3) := by decide +kernel
theorem dX12_first_21 : decode cX12_first 21 = .ok (.ireturn, 1) := by decide +kernel
theorem dX12_hasLater_0 : decode cX12_hasLater 0 = .ok (.aload_n 0, 1) := by decide +kernel
theorem dX12_hasLater_1 : decode cX12_hasLater 1 = .ok (.getfield 145, 3) := by decide +kernel
theorem dX12_hasLater_4 : decode cX12_hasLater 4 = .ok (.iconst 1, 1) := by decide +kernel
theorem dX12_hasLater_5 : decode cX12_hasLater 5 = .ok (.if_icmp .ne 5, 3) := by decide +kernel
theorem dX12_hasLater_8 : decode cX12_hasLater 8 = .ok (.iconst 1, 1) := by decide +kernel
theorem dX12_hasLater_9 : decode cX12_hasLater 9 = .ok (.ireturn, 1) := by decide +kernel
theorem dX12_hasLater_10 : decode cX12_hasLater 10 = .ok (.aload_n 0, 1) := by decide +kernel
theorem dX12_hasLater_11 : decode cX12_hasLater 11 = .ok (.getfield 145, 3) := by decide +kernel
theorem dX12_hasLater_14 : decode cX12_hasLater 14 = .ok (.iconst 2, 1) := by decide +kernel
theorem dX12_hasLater_15 : decode cX12_hasLater 15 = .ok (.if_icmp .ne 22, 3) := by decide +kernel
theorem dX12_hasLater_18 : decode cX12_hasLater 18 = .ok (.aload_n 0, 1) := by decide +kernel
theorem dX12_hasLater_19 : decode cX12_hasLater 19 = .ok (.getfield 326, 3) := by decide +kernel
theorem dX12_hasLater_22 : decode cX12_hasLater 22 = .ok (.aload_n 0, 1) := by decide +kernel
theorem dX12_hasLater_23 : decode cX12_hasLater 23 = .ok (.getfield 23, 3) := by decide +kernel
theorem dX12_hasLater_26 : decode cX12_hasLater 26 = .ok (.iconst 0, 1) := by decide +kernel
theorem dX12_hasLater_27 : decode cX12_hasLater 27 = .ok (.iaload, 1) := by decide +kernel
theorem dX12_hasLater_28 : decode cX12_hasLater 28 = .ok (.if_icmp .ne 7, 3) := by decide +kernel
theorem dX12_hasLater_31 : decode cX12_hasLater 31 = .ok (.iconst 1, 1) := by decide +kernel
theorem dX12_hasLater_32 : decode cX12_hasLater 32 = .ok (.goto 4, 3) := by decide +kernel
theorem dX12_hasLater_35 : decode cX12_hasLater 35 = .ok (.iconst 0, 1) := by decide +kernel
theorem dX12_hasLater_36 : decode cX12_hasLater 36 = .ok (.ireturn, 1) := by decide +kernel
theorem dX12_hasLater_37 : decode cX12_hasLater 37 = .ok (.aload_n 0, 1) := by decide +kernel
theorem dX12_hasLater_38 : decode cX12_hasLater 38 = .ok (.getfield 326, 3) := by decide +kernel
theorem dX12_hasLater_41 : decode cX12_hasLater 41 = .ok (.aload_n 0, 1) := by decide +kernel
theorem dX12_hasLater_42 : decode cX12_hasLater 42 = .ok (.getfield 338, 3) := by decide +kernel
theorem dX12_hasLater_45 : decode cX12_hasLater 45 = .ok (.iadd, 1) := by decide +kernel
theorem dX12_hasLater_46 : decode cX12_hasLater 46 = .ok (.aload_n 0, 1) := by decide +kernel
theorem dX12_hasLater_47 : decode cX12_hasLater 47 = .ok (.getfield 23, 3) := by decide +kernel
theorem dX12_hasLater_50 : decode cX12_hasLater 50 = .ok (.iconst 0, 1) := by decide +kernel
theorem dX12_hasLater_51 : decode cX12_hasLater 51 = .ok (.iaload, 1) := by decide +kernel
theorem dX12_hasLater_52 : decode cX12_hasLater 52 = .ok (.aload_n 0, 1) := by decide +kernel
theorem dX12_hasLater_53 : decode cX12_hasLater 53 = .ok (.getfield 23, 3) := by decide +kernel
theorem dX12_hasLater_56 : decode cX12_hasLater 56 = .ok (.iconst 1, 1) := by decide +kernel
theorem dX12_hasLater_57 : decode cX12_hasLater 57 = .ok (.iaload, 1) := by decide +kernel
theorem dX12_hasLater_58 : decode cX12_hasLater 58 = .ok (.iadd, 1) := by decide +kernel
theorem dX12_hasLater_59 : decode cX12_hasLater 59 = .ok (.if_icmp .ne 37, 3) := by decide +kernel
theorem dX12_hasLater_62 : decode cX12_hasLater 62 = .ok (.aload_n 0, 1) := by decide +kernel
theorem dX12_hasLater_63 : decode cX12_hasLater 63 = .ok (.getfield 326, 3) := by decide +kernel
theorem dX12_hasLater_66 : decode cX12_hasLater 66 = .ok (.aload_n 0, 1) := by decide +kernel
theorem dX12_hasLater_67 : decode cX12_hasLater 67 = .ok (.getfield 338, 3) := by decide +kernel
theorem dX12_hasLater_70 : decode cX12_hasLater 70 = .ok (.imul, 1) := by decide +kernel
theorem dX12_hasLater_71 : decode cX12_hasLater 71 = .ok (.aload_n 0, 1) := by decide +kernel
theorem dX12_hasLater_72 : decode cX12_hasLater 72 = .ok (.getfield 341, 3) := by decide +kernel
theorem dX12_hasLater_75 : decode cX12_hasLater 75 = .ok (.isub, 1) := by decide +kernel
theorem dX12_hasLater_76 : decode cX12_hasLater 76 = .ok (.aload_n 0, 1) := by decide +kernel
theorem dX12_hasLater_77 : decode cX12_hasLater 77 = .ok (.getfield 23, 3) := by decide +kernel
theorem dX12_hasLater_80 : decode cX12_hasLater 80 = .ok (.iconst 0, 1) := by decide +kernel
theorem dX12_hasLater_81 : decode cX12_hasLater 81 = .ok (.iaload, 1) := by decide +kernel
theorem dX12_hasLater_82 : decode cX12_hasLater 82 = .ok (.aload_n 0, 1) := by decide +kernel
theorem dX12_hasLater_83 : decode cX12_hasLater 83 = .ok (.getfield 23, 3) := by decide +kernel
theorem dX12_hasLater_86 : decode cX12_hasLater 86 = .ok (.iconst 1, 1) := by decide +kernel
theorem dX12_hasLater_87 : decode cX12_hasLater 87 = .ok (.iaload, 1) := by decide +kernel
theorem dX12_hasLater_88 : decode cX12_hasLater 88 = .ok (.imul, 1) := by decide +kernel
theorem dX12_hasLater_89 : decode cX12_hasLater 89 = .ok (.if_icmp .ne 7, 3) := by decide +kernel
theorem dX12_hasLater_92 : decode cX12_hasLater 92 = .ok (.iconst 1, 1) := by decide +kernel
theorem dX12_hasLater_93 : decode cX12_hasLater 93 = .ok (.goto 4, 3) := by decide +kernel
theorem dX12_hasLater_96 : decode cX12_hasLater 96 = .ok (.iconst 0, 1) := by decide +kernel
theorem dX12_hasLater_97 : decode cX12_hasLater 97 = .ok (.ireturn, 1) := by decide +kernel
theorem dX12_isSome_0 : decode cX12_isSome 0 = .ok (.iload_n 1, 1) := by decide +kernel
theorem dX12_isSome_1 : decode cX12_isSome 1 = .ok (.ifCond .ne 66, 3) := by decide +kernel
theorem dX12_isSome_4 : decode cX12_isSome 4 = .ok (.aload_n 0, 1) := by decide +kernel
theorem dX12_isSome_5 : decode cX12_isSome 5 = .ok (.getfield 145, 3) := by decide +kernel
theorem dX12_isSome_8 : decode cX12_isSome 8 = .ok (.iconst 1, 1) := by decide +kernel
theorem dX12_isSome_9 : decode cX12_isSome 9 = .ok (.if_icmp .eq 52, 3) := by decide +kernel
theorem dX12_isSome_12 : decode cX12_isSome 12 = .ok (.aload_n 0, 1) := by decide +kernel
theorem dX12_isSome_13 : decode cX12_isSome 13 = .ok (.getfield 145, 3) := by decide +kernel
theorem dX12_isSome_16 : decode cX12_isSome 16 = .ok (.iconst 2, 1) := by decide +kernel
theorem dX12_isSome_17 : decode cX12_isSome 17 = .ok (.if_icmp .ne 14, 3) := by decide +kernel
theorem dX12_isSome_20 : decode cX12_isSome 20 = .ok (.aload_n 0, 1) := by decide +kernel
theorem dX12_isSome_21 : decode cX12_isSome 21 = .ok (.getfield 323, 3) := by decide +kernel
theorem dX12_isSome_24 : decode cX12_isSome 24 = .ok (.aload_n 0, 1) := by decide +kernel
theorem dX12_isSome_25 : decode cX12_isSome 25 = .ok (.getfield 326, 3) := by decide +kernel
theorem dX12_isSome_28 : decode cX12_isSome 28 = .ok (.if_icmp .eq 33, 3) := by decide +kernel
theorem dX12_isSome_31 : decode cX12_isSome 31 = .ok (.aload_n 0, 1) := by decide +kernel
theorem dX12_isSome_32 : decode cX12_isSome 32 = .ok (.getfield 145, 3) := by decide +kernel
theorem dX12_isSome_35 : decode cX12_isSome 35 = .ok (.iconst 3, 1) := by decide +kernel
theorem dX12_isSome_36 : decode cX12_isSome 36 = .ok (.if_icmp .ne 29, 3) := by decide +kernel
theorem dX12_isSome_39 : decode cX12_isSome 39 = .ok (.aload_n 0, 1) := by decide +kernel
theorem dX12_isSome_40 : decode cX12_isSome 40 = .ok (.getfield 323, 3) := by decide +kernel
theorem dX12_isSome_43 : decode cX12_isSome 43 = .ok (.aload_n 0, 1) := by decide +kernel
theorem dX12_isSome_44 : decode cX12_isSome 44 = .ok (.getfield 338, 3) := by decide +kernel
theorem dX12_isSome_47 : decode cX12_isSome 47 = .ok (.if_icmp .ne 18, 3) := by decide +kernel
theorem dX12_isSome_50 : decode cX12_isSome 50 = .ok (.aload_n 0, 1) := by decide +kernel
theorem dX12_isSome_51 : decode cX12_isSome 51 = .ok (.getfield 329, 3) := by decide +kernel
theorem dX12_isSome_54 : decode cX12_isSome 54 = .ok (.aload_n 0, 1) := by decide +kernel
theorem dX12_isSome_55 : decode cX12_isSome 55 = .ok (.getfield 341, 3) := by decide +kernel
theorem dX12_isSome_58 : decode cX12_isSome 58 = .ok (.if_icmp .ne 7, 3) := by decide +kernel
theorem dX12_isSome_61 : decode cX12_isSome 61 = .ok (.iconst 1, 1) := by decide +kernel
theorem dX12_isSome_62 : decode cX12_isSome 62 = .ok (.goto 4, 3) := by decide +kernel
theorem dX12_isSome_65 : decode cX12_isSome 65 = .ok (.iconst 0, 1) := by decide +kernel
theorem dX12_isSome_66 : decode cX12_isSome 66 = .ok (.ireturn, 1) := by decide +kernel
theorem dX12_isSome_67 : decode cX12_isSome 67 = .ok (.iload_n 1, 1) := by decide +kernel
theorem dX12_isSome_68 : decode cX12_isSome 68 = .ok (.iconst 1, 1) := by decide +kernel
theorem dX12_isSome_69 : decode cX12_isSome 69 = .ok (.if_icmp .ne 17, 3) := by decide +kernel
theorem dX12_isSome_72 : decode cX12_isSome 72 = .ok (.aload_n 0, 1) := by decide +kernel
theorem dX12_isSome_73 : decode cX12_isSome 73 = .ok (.invokevirtual 344, 3) := by decide +kernel
theorem dX12_isSome_76 : decode cX12_isSome 76 = .ok (.iload_n 2, 1) := by decide +kernel
theorem dX12_isSome_77 : decode cX12_isSome 77 = .ok (.if_icmp .ne 7, 3) := by decide +kernel
theorem dX12_isSome_80 : decode cX12_isSome 80 = .ok (.iconst 1, 1) := by decide +kernel
theorem dX12_isSome_81 : decode cX12_isSome 81 = .ok (.goto 4, 3) := by decide +kernel
theorem dX12_isSome_84 : decode cX12_isSome 84 = .ok (.iconst 0, 1) := by decide +kernel
theorem dX12_isSome_85 : decode cX12_isSome 85 = .ok (.ireturn, 1) := by decide +kernel
theorem dX12_isSome_86 : decode cX12_isSome 86 = .ok (.iload_n 1, 1) := by decide +kernel
theorem dX12_isSome_87 : decode cX12_isSome 87 = .ok (.iconst 2, 1) := by decide +kernel
theorem dX12_isSome_88 : decode cX12_isSome 88 = .ok (.if_icmp .ne 25, 3) := by decide +kernel
theorem dX12_isSome_91 : decode cX12_isSome 91 = .ok (.aload_n 0, 1) := by decide +kernel
theorem dX12_isSome_92 : decode cX12_isSome 92 = .ok (.getfield 145, 3) := by decide +kernel
theorem dX12_isSome_95 : decode cX12_isSome 95 = .ok (.iconst 1, 1) := by decide +kernel
theorem dX12_isSome_96 : decode cX12_isSome 96 = .ok (.if_icmp .le 15, 3) := by decide +kernel
theorem dX12_isSome_99 : decode cX12_isSome 99 = .ok (.aload_n 0, 1) := by decide +kernel
theorem dX12_isSome_100 : decode cX12_isSome 100 = .ok (.getfield 329, 3) := by decide +kernel
theorem dX12_isSome_103 : decode cX12_isSome 103 = .ok (.iload_n 2, 1) := by decide +kernel
theorem dX12_isSome_104 : decode cX12_isSome 104 = .ok (.if_icmp .ne 7, 3) := by decide +kernel
theorem dX12_isSome_107 : decode cX12_isSome 107 = .ok (.iconst 1, 1) := by decide +kernel
theorem dX12_isSome_108 : decode cX12_isSome 108 = .ok (.goto 4, 3) := by decide +kernel
theorem dX12_isSome_111 : decode cX12_isSome 111 = .ok (.iconst 0, 1) := by decide +kernel
theorem dX12_isSome_112 : decode cX12_isSome 112 = .ok (.ireturn, 1) := by decide +kernel
theorem dX12_isSome_113 : decode cX12_isSome 113 = .ok (.aload_n 0, 1) := by decide +kernel
theorem dX12_isSome_114 : decode cX12_isSome 114 = .ok (.getfield 145, 3) := by decide +kernel
theorem dX12_isSome_117 : decode cX12_isSome 117 = .ok (.iconst 3, 1) := by decide +kernel
theorem dX12_isSome_118 : decode cX12_isSome 118 = .ok (.if_icmp .ge 5, 3) := by decide +kernel
theorem dX12_isSome_121 : decode cX12_isSome 121 = .ok (.iconst 1, 1) := by decide +kernel
theorem dX12_isSome_122 : decode cX12_isSome 122 = .ok (.ireturn, 1) := by decide +kernel
theorem dX12_isSome_123 : decode cX12_isSome 123 = .ok (.aload_n 0, 1) := by decide +kernel
theorem dX12_isSome_124 : decode cX12_isSome 124 = .ok (.getfield 323, 3) := by decide +kernel
theorem dX12_isSome_127 : decode cX12_isSome 127 = .ok (.aload_n 0, 1) := by decide +kernel
theorem dX12_isSome_128 : decode cX12_isSome 128 = .ok (.getfield 326, 3) := by decide +kernel
theorem dX12_isSome_131 : decode cX12_isSome 131 = .ok (.isub, 1) := by decide +kernel
theorem dX12_isSome_132 : decode cX12_isSome 132 = .ok (.aload_n 0, 1) := by decide +kernel
theorem dX12_isSome_133 : decode cX12_isSome 133 = .ok (.getfield 323, 3) := by decide +kernel
theorem dX12_isSome_136 : decode cX12_isSome 136 = .ok (.aload_n 0, 1) := by decide +kernel
theorem dX12_isSome_137 : decode cX12_isSome 137 = .ok (.getfield 326, 3) := by decide +kernel
theorem dX12_isSome_140 : decode cX12_isSome 140 = .ok (.isub, 1) := by decide +kernel
theorem dX12_isSome_141 : decode cX12_isSome 141 = .ok (.imul, 1) := by decide +kernel
theorem dX12_isSome_142 : decode cX12_isSome 142 = .ok (.iconst 4, 1) := by decide +kernel
theorem dX12_isSome_143 : decode cX12_isSome 143 = .ok (.aload_n 0, 1) := by decide +kernel
theorem dX12_isSome_144 : decode cX12_isSome 144 = .ok (.getfield 329, 3) := by decide +kernel
theorem dX12_isSome_147 : decode cX12_isSome 147 = .ok (.imul, 1) := by decide +kernel
theorem dX12_isSome_148 : decode cX12_isSome 148 = .ok (.iadd, 1) := by decide +kernel
theorem dX12_isSome_149 : decode cX12_isSome 149 = .ok (.invokestatic 320, 3) := by decide +kernel
theorem dX12_isSome_152 : decode cX12_isSome 152 = .ok (.ireturn, 1) := by decide +kernel
theorem dX12_all_0 : decode cX12_all 0 = .ok (.aload_n 0, 1) := by decide +kernel
theorem dX12_all_1 : decode cX12_all 1 = .ok (.getfield 145, 3) := by decide +kernel
theorem dX12_all_4 : decode cX12_all 4 = .ok (.ifCond .ne 5, 3) := by decide +kernel
theorem dX12_all_7 : decode cX12_all 7 = .ok (.iconst (-1), 1) := by decide +kernel
theorem dX12_all_8 : decode cX12_all 8 = .ok (.ireturn, 1) := by decide +kernel
theorem dX12_all_9 : decode cX12_all 9 = .ok (.aload_n 0, 1) := by decide +kernel
theorem dX12_all_10 : decode cX12_all 10 = .ok (.getfield 145, 3) := by decide +kernel
theorem dX12_all_13 : decode cX12_all 13 = .ok (.iconst 3, 1) := by decide +kernel
theorem dX12_all_14 : decode cX12_all 14 = .ok (.if_icmp .le 6, 3) := by decide +kernel
theorem dX12_all_17 : decode cX12_all 17 = .ok (.bipush (-2), 2) := by decide +kernel
theorem dX12_all_19 : decode cX12_all 19 = .ok (.ireturn, 1) := by decide +kernel
theorem dX12_all_20 : decode cX12_all 20 = .ok (.iconst 0, 1) := by decide +kernel
theorem dX12_all_21 : decode cX12_all 21 = .ok (.istore_n 1, 1) := by decide +kernel
theorem dX12_all_22 : decode cX12_all 22 = .ok (.aload_n 0, 1) := by decide +kernel
theorem dX12_all_23 : decode cX12_all 23 = .ok (.invokevirtual 347, 3) := by decide +kernel
theorem dX12_all_26 : decode cX12_all 26 = .ok (.aload_n 0, 1) := by decide +kernel
theorem dX12_all_27 : decode cX12_all 27 = .ok (.invokevirtual 350, 3) := by decide +kernel
theorem dX12_all_30 : decode cX12_all 30 = .ok (.ifCond .eq 10, 3) := by decide +kernel
theorem dX12_all_33 : decode cX12_all 33 = .ok (.iload_n 1, 1) := by decide +kernel
theorem dX12_all_34 : decode cX12_all 34 = .ok (.iconst 1, 1) := by decide +kernel
theorem dX12_all_35 : decode cX12_all 35 = .ok (.iadd, 1) := by decide +kernel
theorem dX12_all_36 : decode cX12_all 36 = .ok (.istore_n 1, 1) := by decide +kernel
theorem dX12_all_37 : decode cX12_all 37 = .ok (.goto (-11), 3) := by decide +kernel
theorem dX12_all_40 : decode cX12_all 40 = .ok (.iload_n 1, 1) := by decide +kernel
theorem dX12_all_41 : decode cX12_all 41 = .ok (.ireturn, 1) := by decide +kernel
theorem dX12_lay_0 : decode cX12_lay 0 = .ok (.aload_n 0, 1) := by decide +kernel
theorem dX12_lay_1 : decode cX12_lay 1 = .ok (.getfield 145, 3) := by decide +kernel
theorem dX12_lay_4 : decode cX12_lay 4 = .ok (.ifCond .eq 14, 3) := by decide +kernel
theorem dX12_lay_7 : decode cX12_lay 7 = .ok (.iload_n 2, 1) := by decide +kernel
theorem dX12_lay_8 : decode cX12_lay 8 = .ok (.invokestatic 253, 3) := by decide +kernel
theorem dX12_lay_11 : decode cX12_lay 11 = .ok (.ifCond .eq 7, 3) := by decide +kernel
theorem dX12_lay_14 : decode cX12_lay 14 = .ok (.iload_n 1, 1) := by decide +kernel
theorem dX12_lay_15 : decode cX12_lay 15 = .ok (.ifCond .ge 5, 3) := by decide +kernel
theorem dX12_lay_18 : decode cX12_lay 18 = .ok (.iconst (-1), 1) := by decide +kernel
theorem dX12_lay_19 : decode cX12_lay 19 = .ok (.ireturn, 1) := by decide +kernel
theorem dX12_lay_20 : decode cX12_lay 20 = .ok (.aload_n 0, 1) := by decide +kernel
theorem dX12_lay_21 : decode cX12_lay 21 = .ok (.getfield 145, 3) := by decide +kernel
theorem dX12_lay_24 : decode cX12_lay 24 = .ok (.iconst 3, 1) := by decide +kernel
theorem dX12_lay_25 : decode cX12_lay 25 = .ok (.if_icmp .le 6, 3) := by decide +kernel
theorem dX12_lay_28 : decode cX12_lay 28 = .ok (.bipush (-2), 2) := by decide +kernel
theorem dX12_lay_30 : decode cX12_lay 30 = .ok (.ireturn, 1) := by decide +kernel
theorem dX12_lay_31 : decode cX12_lay 31 = .ok (.aload_n 0, 1) := by decide +kernel
theorem dX12_lay_32 : decode cX12_lay 32 = .ok (.invokevirtual 347, 3) := by decide +kernel
theorem dX12_lay_35 : decode cX12_lay 35 = .ok (.aload_n 0, 1) := by decide +kernel
theorem dX12_lay_36 : decode cX12_lay 36 = .ok (.invokevirtual 350, 3) := by decide +kernel
theorem dX12_lay_39 : decode cX12_lay 39 = .ok (.istore_n 3, 1) := by decide +kernel
theorem dX12_lay_40 : decode cX12_lay 40 = .ok (.iconst 0, 1) := by decide +kernel
theorem dX12_lay_41 : decode cX12_lay 41 = .ok (.istore 4, 2) := by decide +kernel
theorem dX12_lay_43 : decode cX12_lay 43 = .ok (.iload 4, 2) := by decide +kernel
theorem dX12_lay_45 : decode cX12_lay 45 = .ok (.iload_n 1, 1) := by decide +kernel
theorem dX12_lay_46 : decode cX12_lay 46 = .ok (.if_icmp .ge 18, 3) := by decide +kernel
theorem dX12_lay_49 : decode cX12_lay 49 = .ok (.iload_n 3, 1) := by decide +kernel
theorem dX12_lay_50 : decode cX12_lay 50 = .ok (.ifCond .eq 14, 3) := by decide +kernel
theorem dX12_lay_53 : decode cX12_lay 53 = .ok (.aload_n 0, 1) := by decide +kernel
theorem dX12_lay_54 : decode cX12_lay 54 = .ok (.invokevirtual 350, 3) := by decide +kernel
theorem dX12_lay_57 : decode cX12_lay 57 = .ok (.istore_n 3, 1) := by decide +kernel
theorem dX12_lay_58 : decode cX12_lay 58 = .ok (.iinc 4 1, 3) := by decide +kernel
theorem dX12_lay_61 : decode cX12_lay 61 = .ok (.goto (-18), 3) := by decide +kernel
theorem dX12_lay_64 : decode cX12_lay 64 = .ok (.iload_n 3, 1) := by decide +kernel
theorem dX12_lay_65 : decode cX12_lay 65 = .ok (.ifCond .ne 6, 3) := by decide +kernel
theorem dX12_lay_68 : decode cX12_lay 68 = .ok (.bipush (-3), 2) := by decide +kernel
theorem dX12_lay_70 : decode cX12_lay 70 = .ok (.ireturn, 1) := by decide +kernel
theorem dX12_lay_71 : decode cX12_lay 71 = .ok (.aload_n 0, 1) := by decide +kernel
theorem dX12_lay_72 : decode cX12_lay 72 = .ok (.getfield 48, 3) := by decide +kernel
theorem dX12_lay_75 : decode cX12_lay 75 = .ok (.iload_n 2, 1) := by decide +kernel
theorem dX12_lay_76 : decode cX12_lay 76 = .ok (.aload_n 0, 1) := by decide +kernel
theorem dX12_lay_77 : decode cX12_lay 77 = .ok (.getfield 145, 3) := by decide +kernel
theorem dX12_lay_80 : decode cX12_lay 80 = .ok (.iastore, 1) := by decide +kernel
theorem dX12_lay_81 : decode cX12_lay 81 = .ok (.aload_n 0, 1) := by decide +kernel
theorem dX12_lay_82 : decode cX12_lay 82 = .ok (.getfield 51, 3) := by decide +kernel
theorem dX12_lay_85 : decode cX12_lay 85 = .ok (.iconst 5, 1) := by decide +kernel
theorem dX12_lay_86 : decode cX12_lay 86 = .ok (.iload_n 2, 1) := by decide +kernel
theorem dX12_lay_87 : decode cX12_lay 87 = .ok (.imul, 1) := by decide +kernel
theorem dX12_lay_88 : decode cX12_lay 88 = .ok (.aload_n 0, 1) := by decide +kernel
theorem dX12_lay_89 : decode cX12_lay 89 = .ok (.invokevirtual 344, 3) := by decide +kernel
theorem dX12_lay_92 : decode cX12_lay 92 = .ok (.iastore, 1) := by decide +kernel
theorem dX12_lay_93 : decode cX12_lay 93 = .ok (.aload_n 0, 1) := by decide +kernel
theorem dX12_lay_94 : decode cX12_lay 94 = .ok (.getfield 145, 3) := by decide +kernel
theorem dX12_lay_97 : decode cX12_lay 97 = .ok (.iconst 1, 1) := by decide +kernel
theorem dX12_lay_98 : decode cX12_lay 98 = .ok (.if_icmp .le 29, 3) := by decide +kernel
theorem dX12_lay_101 : decode cX12_lay 101 = .ok (.aload_n 0, 1) := by decide +kernel
theorem dX12_lay_102 : decode cX12_lay 102 = .ok (.getfield 51, 3) := by decide +kernel
theorem dX12_lay_105 : decode cX12_lay 105 = .ok (.iconst 5, 1) := by decide +kernel
theorem dX12_lay_106 : decode cX12_lay 106 = .ok (.iload_n 2, 1) := by decide +kernel
theorem dX12_lay_107 : decode cX12_lay 107 = .ok (.imul, 1) := by decide +kernel
theorem dX12_lay_108 : decode cX12_lay 108 = .ok (.iconst 1, 1) := by decide +kernel
theorem dX12_lay_109 : decode cX12_lay 109 = .ok (.iadd, 1) := by decide +kernel
theorem dX12_lay_110 : decode cX12_lay 110 = .ok (.aload_n 0, 1) := by decide +kernel
theorem dX12_lay_111 : decode cX12_lay 111 = .ok (.getfield 326, 3) := by decide +kernel
theorem dX12_lay_114 : decode cX12_lay 114 = .ok (.iastore, 1) := by decide +kernel
theorem dX12_lay_115 : decode cX12_lay 115 = .ok (.aload_n 0, 1) := by decide +kernel
theorem dX12_lay_116 : decode cX12_lay 116 = .ok (.getfield 54, 3) := by decide +kernel
theorem dX12_lay_119 : decode cX12_lay 119 = .ok (.iconst 5, 1) := by decide +kernel
theorem dX12_lay_120 : decode cX12_lay 120 = .ok (.iload_n 2, 1) := by decide +kernel
theorem dX12_lay_121 : decode cX12_lay 121 = .ok (.imul, 1) := by decide +kernel
theorem dX12_lay_122 : decode cX12_lay 122 = .ok (.aload_n 0, 1) := by decide +kernel
theorem dX12_lay_123 : decode cX12_lay 123 = .ok (.getfield 329, 3) := by decide +kernel
theorem dX12_lay_126 : decode cX12_lay 126 = .ok (.iastore, 1) := by decide +kernel
theorem dX12_lay_127 : decode cX12_lay 127 = .ok (.aload_n 0, 1) := by decide +kernel
theorem dX12_lay_128 : decode cX12_lay 128 = .ok (.getfield 145, 3) := by decide +kernel
theorem dX12_lay_131 : decode cX12_lay 131 = .ok (.iconst 2, 1) := by decide +kernel
theorem dX12_lay_132 : decode cX12_lay 132 = .ok (.if_icmp .le 31, 3) := by decide +kernel
theorem dX12_lay_135 : decode cX12_lay 135 = .ok (.aload_n 0, 1) := by decide +kernel
theorem dX12_lay_136 : decode cX12_lay 136 = .ok (.getfield 51, 3) := by decide +kernel
theorem dX12_lay_139 : decode cX12_lay 139 = .ok (.iconst 5, 1) := by decide +kernel
theorem dX12_lay_140 : decode cX12_lay 140 = .ok (.iload_n 2, 1) := by decide +kernel
theorem dX12_lay_141 : decode cX12_lay 141 = .ok (.imul, 1) := by decide +kernel
theorem dX12_lay_142 : decode cX12_lay 142 = .ok (.iconst 2, 1) := by decide +kernel
theorem dX12_lay_143 : decode cX12_lay 143 = .ok (.iadd, 1) := by decide +kernel
theorem dX12_lay_144 : decode cX12_lay 144 = .ok (.aload_n 0, 1) := by decide +kernel
theorem dX12_lay_145 : decode cX12_lay 145 = .ok (.getfield 338, 3) := by decide +kernel
theorem dX12_lay_148 : decode cX12_lay 148 = .ok (.iastore, 1) := by decide +kernel
theorem dX12_lay_149 : decode cX12_lay 149 = .ok (.aload_n 0, 1) := by decide +kernel
theorem dX12_lay_150 : decode cX12_lay 150 = .ok (.getfield 54, 3) := by decide +kernel
theorem dX12_lay_153 : decode cX12_lay 153 = .ok (.iconst 5, 1) := by decide +kernel
theorem dX12_lay_154 : decode cX12_lay 154 = .ok (.iload_n 2, 1) := by decide +kernel
theorem dX12_lay_155 : decode cX12_lay 155 = .ok (.imul, 1) := by decide +kernel
theorem dX12_lay_156 : decode cX12_lay 156 = .ok (.iconst 1, 1) := by decide +kernel
theorem dX12_lay_157 : decode cX12_lay 157 = .ok (.iadd, 1) := by decide +kernel
theorem dX12_lay_158 : decode cX12_lay 158 = .ok (.aload_n 0, 1) := by decide +kernel
theorem dX12_lay_159 : decode cX12_lay 159 = .ok (.getfield 341, 3) := by decide +kernel
theorem dX12_lay_162 : decode cX12_lay 162 = .ok (.iastore, 1) := by decide +kernel
theorem dX12_lay_163 : decode cX12_lay 163 = .ok (.aload_n 0, 1) := by decide +kernel
theorem dX12_lay_164 : decode cX12_lay 164 = .ok (.getfield 145, 3) := by decide +kernel
theorem dX12_lay_167 : decode cX12_lay 167 = .ok (.ireturn, 1) := by decide +kernel
theorem dX12_unique_0 : decode cX12_unique 0 = .ok (.aload_n 0, 1) := by decide +kernel
theorem dX12_unique_1 : decode cX12_unique 1 = .ok (.getfield 145, 3) := by decide +kernel
theorem dX12_unique_4 : decode cX12_unique 4 = .ok (.ifCond .ne 5, 3) := by decide +kernel
theorem dX12_unique_7 : decode cX12_unique 7 = .ok (.iconst (-1), 1) := by decide +kernel
theorem dX12_unique_8 : decode cX12_unique 8 = .ok (.ireturn, 1) := by decide +kernel
theorem dX12_unique_9 : decode cX12_unique 9 = .ok (.aload_n 0, 1) := by decide +kernel
theorem dX12_unique_10 : decode cX12_unique 10 = .ok (.getfield 145, 3) := by decide +kernel
theorem dX12_unique_13 : decode cX12_unique 13 = .ok (.iconst 3, 1) := by decide +kernel
theorem dX12_unique_14 : decode cX12_unique 14 = .ok (.if_icmp .le 6, 3) := by decide +kernel
theorem dX12_unique_17 : decode cX12_unique 17 = .ok (.bipush (-2), 2) := by decide +kernel
theorem dX12_unique_19 : decode cX12_unique 19 = .ok (.ireturn, 1) := by decide +kernel
theorem dX12_unique_20 : decode cX12_unique 20 = .ok (.iconst 0, 1) := by decide +kernel
theorem dX12_unique_21 : decode cX12_unique 21 = .ok (.istore_n 1, 1) := by decide +kernel
theorem dX12_unique_22 : decode cX12_unique 22 = .ok (.aload_n 0, 1) := by decide +kernel
theorem dX12_unique_23 : decode cX12_unique 23 = .ok (.invokevirtual 347, 3) := by decide +kernel
theorem dX12_unique_26 : decode cX12_unique 26 = .ok (.aload_n 0, 1) := by decide +kernel
theorem dX12_unique_27 : decode cX12_unique 27 = .ok (.invokevirtual 350, 3) := by decide +kernel
theorem dX12_unique_30 : decode cX12_unique 30 = .ok (.ifCond .eq 21, 3) := by decide +kernel
theorem dX12_unique_33 : decode cX12_unique 33 = .ok (.iload_n 1, 1) := by decide +kernel
theorem dX12_unique_34 : decode cX12_unique 34 = .ok (.aload_n 0, 1) := by decide +kernel
theorem dX12_unique_35 : decode cX12_unique 35 = .ok (.invokevirtual 353, 3) := by decide +kernel
theorem dX12_unique_38 : decode cX12_unique 38 = .ok (.ifCond .eq 7, 3) := by decide +kernel
theorem dX12_unique_41 : decode cX12_unique 41 = .ok (.iconst 1, 1) := by decide +kernel
theorem dX12_unique_42 : decode cX12_unique 42 = .ok (.goto 4, 3) := by decide +kernel
theorem dX12_unique_45 : decode cX12_unique 45 = .ok (.iconst 0, 1) := by decide +kernel
theorem dX12_unique_46 : decode cX12_unique 46 = .ok (.iadd, 1) := by decide +kernel
theorem dX12_unique_47 : decode cX12_unique 47 = .ok (.istore_n 1, 1) := by decide +kernel
theorem dX12_unique_48 : decode cX12_unique 48 = .ok (.goto (-22), 3) := by decide +kernel
theorem dX12_unique_51 : decode cX12_unique 51 = .ok (.iload_n 1, 1) := by decide +kernel
theorem dX12_unique_52 : decode cX12_unique 52 = .ok (.ireturn, 1) := by decide +kernel
theorem dX12_some_0 : decode cX12_some 0 = .ok (.aload_n 0, 1) := by decide +kernel
theorem dX12_some_1 : decode cX12_some 1 = .ok (.getfield 145, 3) := by decide +kernel
theorem dX12_some_4 : decode cX12_some 4 = .ok (.ifCond .eq 12, 3) := by decide +kernel
theorem dX12_some_7 : decode cX12_some 7 = .ok (.iload_n 1, 1) := by decide +kernel
theorem dX12_some_8 : decode cX12_some 8 = .ok (.iconst 0, 1) := by decide +kernel
theorem dX12_some_9 : decode cX12_some 9 = .ok (.iconst 3, 1) := by decide +kernel
theorem dX12_some_10 : decode cX12_some 10 = .ok (.invokestatic 134, 3) := by decide +kernel
theorem dX12_some_13 : decode cX12_some 13 = .ok (.ifCond .ne 5, 3) := by decide +kernel
theorem dX12_some_16 : decode cX12_some 16 = .ok (.iconst (-1), 1) := by decide +kernel
theorem dX12_some_17 : decode cX12_some 17 = .ok (.ireturn, 1) := by decide +kernel
theorem dX12_some_18 : decode cX12_some 18 = .ok (.aload_n 0, 1) := by decide +kernel
theorem dX12_some_19 : decode cX12_some 19 = .ok (.getfield 145, 3) := by decide +kernel
theorem dX12_some_22 : decode cX12_some 22 = .ok (.iconst 3, 1) := by decide +kernel
theorem dX12_some_23 : decode cX12_some 23 = .ok (.if_icmp .le 6, 3) := by decide +kernel
theorem dX12_some_26 : decode cX12_some 26 = .ok (.bipush (-2), 2) := by decide +kernel
theorem dX12_some_28 : decode cX12_some 28 = .ok (.ireturn, 1) := by decide +kernel
theorem dX12_some_29 : decode cX12_some 29 = .ok (.iconst 0, 1) := by decide +kernel
theorem dX12_some_30 : decode cX12_some 30 = .ok (.istore_n 3, 1) := by decide +kernel
theorem dX12_some_31 : decode cX12_some 31 = .ok (.aload_n 0, 1) := by decide +kernel
theorem dX12_some_32 : decode cX12_some 32 = .ok (.invokevirtual 347, 3) := by decide +kernel
theorem dX12_some_35 : decode cX12_some 35 = .ok (.aload_n 0, 1) := by decide +kernel
theorem dX12_some_36 : decode cX12_some 36 = .ok (.invokevirtual 350, 3) := by decide +kernel
theorem dX12_some_39 : decode cX12_some 39 = .ok (.ifCond .eq 23, 3) := by decide +kernel
theorem dX12_some_42 : decode cX12_some 42 = .ok (.iload_n 3, 1) := by decide +kernel
theorem dX12_some_43 : decode cX12_some 43 = .ok (.aload_n 0, 1) := by decide +kernel
theorem dX12_some_44 : decode cX12_some 44 = .ok (.iload_n 1, 1) := by decide +kernel
theorem dX12_some_45 : decode cX12_some 45 = .ok (.iload_n 2, 1) := by decide +kernel
theorem dX12_some_46 : decode cX12_some 46 = .ok (.invokevirtual 356, 3) := by decide +kernel
theorem dX12_some_49 : decode cX12_some 49 = .ok (.ifCond .eq 7, 3) := by decide +kernel
theorem dX12_some_52 : decode cX12_some 52 = .ok (.iconst 1, 1) := by decide +kernel
theorem dX12_some_53 : decode cX12_some 53 = .ok (.goto 4, 3) := by decide +kernel
theorem dX12_some_56 : decode cX12_some 56 = .ok (.iconst 0, 1) := by decide +kernel
theorem dX12_some_57 : decode cX12_some 57 = .ok (.iadd, 1) := by decide +kernel
theorem dX12_some_58 : decode cX12_some 58 = .ok (.istore_n 3, 1) := by decide +kernel
theorem dX12_some_59 : decode cX12_some 59 = .ok (.goto (-24), 3) := by decide +kernel
theorem dX12_some_62 : decode cX12_some 62 = .ok (.iload_n 3, 1) := by decide +kernel
theorem dX12_some_63 : decode cX12_some 63 = .ok (.ireturn, 1) := by decide +kernel
theorem dX12_heard_0 : decode cX12_heard 0 = .ok (.iload_n 1, 1) := by decide +kernel
theorem dX12_heard_1 : decode cX12_heard 1 = .ok (.invokestatic 253, 3) := by decide +kernel
theorem dX12_heard_4 : decode cX12_heard 4 = .ok (.ifCond .ne 5, 3) := by decide +kernel
theorem dX12_heard_7 : decode cX12_heard 7 = .ok (.iconst (-1), 1) := by decide +kernel
theorem dX12_heard_8 : decode cX12_heard 8 = .ok (.ireturn, 1) := by decide +kernel
theorem dX12_heard_9 : decode cX12_heard 9 = .ok (.aload_n 0, 1) := by decide +kernel
theorem dX12_heard_10 : decode cX12_heard 10 = .ok (.getfield 48, 3) := by decide +kernel
theorem dX12_heard_13 : decode cX12_heard 13 = .ok (.iload_n 1, 1) := by decide +kernel
theorem dX12_heard_14 : decode cX12_heard 14 = .ok (.iaload, 1) := by decide +kernel
theorem dX12_heard_15 : decode cX12_heard 15 = .ok (.istore_n 2, 1) := by decide +kernel
theorem dX12_heard_16 : decode cX12_heard 16 = .ok (.iload_n 2, 1) := by decide +kernel
theorem dX12_heard_17 : decode cX12_heard 17 = .ok (.ifCond .ne 6, 3) := by decide +kernel
theorem dX12_heard_20 : decode cX12_heard 20 = .ok (.bipush (-2), 2) := by decide +kernel
theorem dX12_heard_22 : decode cX12_heard 22 = .ok (.ireturn, 1) := by decide +kernel
theorem dX12_heard_23 : decode cX12_heard 23 = .ok (.iload_n 2, 1) := by decide +kernel
theorem dX12_heard_24 : decode cX12_heard 24 = .ok (.iconst 4, 1) := by decide +kernel
theorem dX12_heard_25 : decode cX12_heard 25 = .ok (.if_icmp .gt 29, 3) := by decide +kernel
theorem dX12_heard_28 : decode cX12_heard 28 = .ok (.aload_n 0, 1) := by decide +kernel
theorem dX12_heard_29 : decode cX12_heard 29 = .ok (.iload_n 1, 1) := by decide +kernel
theorem dX12_heard_30 : decode cX12_heard 30 = .ok (.iconst 0, 1) := by decide +kernel
theorem dX12_heard_31 : decode cX12_heard 31 = .ok (.iload_n 2, 1) := by decide +kernel
theorem dX12_heard_32 : decode cX12_heard 32 = .ok (.invokevirtual 292, 3) := by decide +kernel
theorem dX12_heard_35 : decode cX12_heard 35 = .ok (.iload_n 2, 1) := by decide +kernel
theorem dX12_heard_36 : decode cX12_heard 36 = .ok (.if_icmp .lt 18, 3) := by decide +kernel
theorem dX12_heard_39 : decode cX12_heard 39 = .ok (.aload_n 0, 1) := by decide +kernel
theorem dX12_heard_40 : decode cX12_heard 40 = .ok (.iload_n 1, 1) := by decide +kernel
theorem dX12_heard_41 : decode cX12_heard 41 = .ok (.iconst 1, 1) := by decide +kernel
theorem dX12_heard_42 : decode cX12_heard 42 = .ok (.iload_n 2, 1) := by decide +kernel
theorem dX12_heard_43 : decode cX12_heard 43 = .ok (.iconst 1, 1) := by decide +kernel
theorem dX12_heard_44 : decode cX12_heard 44 = .ok (.isub, 1) := by decide +kernel
theorem dX12_heard_45 : decode cX12_heard 45 = .ok (.invokevirtual 292, 3) := by decide +kernel
theorem dX12_heard_48 : decode cX12_heard 48 = .ok (.iload_n 2, 1) := by decide +kernel
theorem dX12_heard_49 : decode cX12_heard 49 = .ok (.iconst 1, 1) := by decide +kernel
theorem dX12_heard_50 : decode cX12_heard 50 = .ok (.isub, 1) := by decide +kernel
theorem dX12_heard_51 : decode cX12_heard 51 = .ok (.if_icmp .ge 6, 3) := by decide +kernel
theorem dX12_heard_54 : decode cX12_heard 54 = .ok (.bipush (-3), 2) := by decide +kernel
theorem dX12_heard_56 : decode cX12_heard 56 = .ok (.ireturn, 1) := by decide +kernel
theorem dX12_heard_57 : decode cX12_heard 57 = .ok (.iconst 0, 1) := by decide +kernel
theorem dX12_heard_58 : decode cX12_heard 58 = .ok (.istore_n 3, 1) := by decide +kernel
theorem dX12_heard_59 : decode cX12_heard 59 = .ok (.iload_n 3, 1) := by decide +kernel
theorem dX12_heard_60 : decode cX12_heard 60 = .ok (.iload_n 2, 1) := by decide +kernel
theorem dX12_heard_61 : decode cX12_heard 61 = .ok (.if_icmp .ge 24, 3) := by decide +kernel
theorem dX12_heard_64 : decode cX12_heard 64 = .ok (.aload_n 0, 1) := by decide +kernel
theorem dX12_heard_65 : decode cX12_heard 65 = .ok (.getfield 13, 3) := by decide +kernel
theorem dX12_heard_68 : decode cX12_heard 68 = .ok (.iload_n 3, 1) := by decide +kernel
theorem dX12_heard_69 : decode cX12_heard 69 = .ok (.aload_n 0, 1) := by decide +kernel
theorem dX12_heard_70 : decode cX12_heard 70 = .ok (.iload_n 1, 1) := by decide +kernel
theorem dX12_heard_71 : decode cX12_heard 71 = .ok (.iconst 0, 1) := by decide +kernel
theorem dX12_heard_72 : decode cX12_heard 72 = .ok (.iload_n 2, 1) := by decide +kernel
theorem dX12_heard_73 : decode cX12_heard 73 = .ok (.iload_n 3, 1) := by decide +kernel
theorem dX12_heard_74 : decode cX12_heard 74 = .ok (.iconst 1, 1) := by decide +kernel
theorem dX12_heard_75 : decode cX12_heard 75 = .ok (.invokevirtual 289, 3) := by decide +kernel
theorem dX12_heard_78 : decode cX12_heard 78 = .ok (.iastore, 1) := by decide +kernel
theorem dX12_heard_79 : decode cX12_heard 79 = .ok (.iinc 3 1, 3) := by decide +kernel
theorem dX12_heard_82 : decode cX12_heard 82 = .ok (.goto (-23), 3) := by decide +kernel
theorem dX12_heard_85 : decode cX12_heard 85 = .ok (.iconst 0, 1) := by decide +kernel
theorem dX12_heard_86 : decode cX12_heard 86 = .ok (.istore_n 3, 1) := by decide +kernel
theorem dX12_heard_87 : decode cX12_heard 87 = .ok (.iload_n 3, 1) := by decide +kernel
theorem dX12_heard_88 : decode cX12_heard 88 = .ok (.iload_n 2, 1) := by decide +kernel
theorem dX12_heard_89 : decode cX12_heard 89 = .ok (.iconst 1, 1) := by decide +kernel
theorem dX12_heard_90 : decode cX12_heard 90 = .ok (.isub, 1) := by decide +kernel
theorem dX12_heard_91 : decode cX12_heard 91 = .ok (.if_icmp .ge 26, 3) := by decide +kernel
theorem dX12_heard_94 : decode cX12_heard 94 = .ok (.aload_n 0, 1) := by decide +kernel
theorem dX12_heard_95 : decode cX12_heard 95 = .ok (.getfield 17, 3) := by decide +kernel
theorem dX12_heard_98 : decode cX12_heard 98 = .ok (.iload_n 3, 1) := by decide +kernel
theorem dX12_heard_99 : decode cX12_heard 99 = .ok (.aload_n 0, 1) := by decide +kernel
theorem dX12_heard_100 : decode cX12_heard 100 = .ok (.iload_n 1, 1) := by decide +kernel
theorem dX12_heard_101 : decode cX12_heard 101 = .ok (.iconst 1, 1) := by decide +kernel
theorem dX12_heard_102 : decode cX12_heard 102 = .ok (.iload_n 2, 1) := by decide +kernel
theorem dX12_heard_103 : decode cX12_heard 103 = .ok (.iconst 1, 1) := by decide +kernel
theorem dX12_heard_104 : decode cX12_heard 104 = .ok (.isub, 1) := by decide +kernel
theorem dX12_heard_105 : decode cX12_heard 105 = .ok (.iload_n 3, 1) := by decide +kernel
theorem dX12_heard_106 : decode cX12_heard 106 = .ok (.iconst 1, 1) := by decide +kernel
theorem dX12_heard_107 : decode cX12_heard 107 = .ok (.invokevirtual 289, 3) := by decide +kernel
theorem dX12_heard_110 : decode cX12_heard 110 = .ok (.iastore, 1) := by decide +kernel
theorem dX12_heard_111 : decode cX12_heard 111 = .ok (.iinc 3 1, 3) := by decide +kernel
theorem dX12_heard_114 : decode cX12_heard 114 = .ok (.goto (-27), 3) := by decide +kernel
theorem dX12_heard_117 : decode cX12_heard 117 = .ok (.aload_n 0, 1) := by decide +kernel
theorem dX12_heard_118 : decode cX12_heard 118 = .ok (.getfield 13, 3) := by decide +kernel
theorem dX12_heard_121 : decode cX12_heard 121 = .ok (.iconst 0, 1) := by decide +kernel
theorem dX12_heard_122 : decode cX12_heard 122 = .ok (.iaload, 1) := by decide +kernel
theorem dX12_heard_123 : decode cX12_heard 123 = .ok (.bipush (-6), 2) := by decide +kernel
theorem dX12_heard_125 : decode cX12_heard 125 = .ok (.if_icmp .lt 16, 3) := by decide +kernel
theorem dX12_heard_128 : decode cX12_heard 128 = .ok (.aload_n 0, 1) := by decide +kernel
theorem dX12_heard_129 : decode cX12_heard 129 = .ok (.getfield 13, 3) := by decide +kernel
theorem dX12_heard_132 : decode cX12_heard 132 = .ok (.iload_n 2, 1) := by decide +kernel
theorem dX12_heard_133 : decode cX12_heard 133 = .ok (.iconst 1, 1) := by decide +kernel
theorem dX12_heard_134 : decode cX12_heard 134 = .ok (.isub, 1) := by decide +kernel
theorem dX12_heard_135 : decode cX12_heard 135 = .ok (.iaload, 1) := by decide +kernel
theorem dX12_heard_136 : decode cX12_heard 136 = .ok (.bipush 6, 2) := by decide +kernel
theorem dX12_heard_138 : decode cX12_heard 138 = .ok (.if_icmp .le 6, 3) := by decide +kernel
theorem dX12_heard_141 : decode cX12_heard 141 = .ok (.bipush (-3), 2) := by decide +kernel
theorem dX12_heard_143 : decode cX12_heard 143 = .ok (.ireturn, 1) := by decide +kernel
theorem dX12_heard_144 : decode cX12_heard 144 = .ok (.aload_n 0, 1) := by decide +kernel
theorem dX12_heard_145 : decode cX12_heard 145 = .ok (.iload_n 2, 1) := by decide +kernel
theorem dX12_heard_146 : decode cX12_heard 146 = .ok (.putfield 145, 3) := by decide +kernel
theorem dX12_heard_149 : decode cX12_heard 149 = .ok (.iconst 0, 1) := by decide +kernel
theorem dX12_heard_150 : decode cX12_heard 150 = .ok (.istore_n 3, 1) := by decide +kernel
theorem dX12_heard_151 : decode cX12_heard 151 = .ok (.iload_n 3, 1) := by decide +kernel
theorem dX12_heard_152 : decode cX12_heard 152 = .ok (.iload_n 2, 1) := by decide +kernel
theorem dX12_heard_153 : decode cX12_heard 153 = .ok (.if_icmp .ge 21, 3) := by decide +kernel
theorem dX12_heard_156 : decode cX12_heard 156 = .ok (.aload_n 0, 1) := by decide +kernel
theorem dX12_heard_157 : decode cX12_heard 157 = .ok (.getfield 20, 3) := by decide +kernel
theorem dX12_heard_160 : decode cX12_heard 160 = .ok (.iload_n 3, 1) := by decide +kernel
theorem dX12_heard_161 : decode cX12_heard 161 = .ok (.aload_n 0, 1) := by decide +kernel
theorem dX12_heard_162 : decode cX12_heard 162 = .ok (.getfield 13, 3) := by decide +kernel
theorem dX12_heard_165 : decode cX12_heard 165 = .ok (.iload_n 3, 1) := by decide +kernel
theorem dX12_heard_166 : decode cX12_heard 166 = .ok (.iaload, 1) := by decide +kernel
theorem dX12_heard_167 : decode cX12_heard 167 = .ok (.iastore, 1) := by decide +kernel
theorem dX12_heard_168 : decode cX12_heard 168 = .ok (.iinc 3 1, 3) := by decide +kernel
theorem dX12_heard_171 : decode cX12_heard 171 = .ok (.goto (-20), 3) := by decide +kernel
theorem dX12_heard_174 : decode cX12_heard 174 = .ok (.iconst 0, 1) := by decide +kernel
theorem dX12_heard_175 : decode cX12_heard 175 = .ok (.istore_n 3, 1) := by decide +kernel
theorem dX12_heard_176 : decode cX12_heard 176 = .ok (.iload_n 3, 1) := by decide +kernel
theorem dX12_heard_177 : decode cX12_heard 177 = .ok (.iload_n 2, 1) := by decide +kernel
theorem dX12_heard_178 : decode cX12_heard 178 = .ok (.iconst 1, 1) := by decide +kernel
theorem dX12_heard_179 : decode cX12_heard 179 = .ok (.isub, 1) := by decide +kernel
theorem dX12_heard_180 : decode cX12_heard 180 = .ok (.if_icmp .ge 21, 3) := by decide +kernel
theorem dX12_heard_183 : decode cX12_heard 183 = .ok (.aload_n 0, 1) := by decide +kernel
theorem dX12_heard_184 : decode cX12_heard 184 = .ok (.getfield 23, 3) := by decide +kernel
theorem dX12_heard_187 : decode cX12_heard 187 = .ok (.iload_n 3, 1) := by decide +kernel
theorem dX12_heard_188 : decode cX12_heard 188 = .ok (.aload_n 0, 1) := by decide +kernel
theorem dX12_heard_189 : decode cX12_heard 189 = .ok (.getfield 17, 3) := by decide +kernel
theorem dX12_heard_192 : decode cX12_heard 192 = .ok (.iload_n 3, 1) := by decide +kernel
theorem dX12_heard_193 : decode cX12_heard 193 = .ok (.iaload, 1) := by decide +kernel
theorem dX12_heard_194 : decode cX12_heard 194 = .ok (.iastore, 1) := by decide +kernel
theorem dX12_heard_195 : decode cX12_heard 195 = .ok (.iinc 3 1, 3) := by decide +kernel
theorem dX12_heard_198 : decode cX12_heard 198 = .ok (.goto (-22), 3) := by decide +kernel
theorem dX12_heard_201 : decode cX12_heard 201 = .ok (.iload_n 2, 1) := by decide +kernel
theorem dX12_heard_202 : decode cX12_heard 202 = .ok (.ireturn, 1) := by decide +kernel
theorem dX12_keep_0 : decode cX12_keep 0 = .ok (.aload_n 0, 1) := by decide +kernel
theorem dX12_keep_1 : decode cX12_keep 1 = .ok (.getfield 148, 3) := by decide +kernel
theorem dX12_keep_4 : decode cX12_keep 4 = .ok (.bipush 8, 2) := by decide +kernel
theorem dX12_keep_6 : decode cX12_keep 6 = .ok (.if_icmp .ne 5, 3) := by decide +kernel
theorem dX12_keep_9 : decode cX12_keep 9 = .ok (.iconst (-1), 1) := by decide +kernel
theorem dX12_keep_10 : decode cX12_keep 10 = .ok (.ireturn, 1) := by decide +kernel
theorem dX12_keep_11 : decode cX12_keep 11 = .ok (.aload_n 0, 1) := by decide +kernel
theorem dX12_keep_12 : decode cX12_keep 12 = .ok (.getfield 148, 3) := by decide +kernel
theorem dX12_keep_15 : decode cX12_keep 15 = .ok (.istore_n 1, 1) := by decide +kernel
theorem dX12_keep_16 : decode cX12_keep 16 = .ok (.aload_n 0, 1) := by decide +kernel
theorem dX12_keep_17 : decode cX12_keep 17 = .ok (.iload_n 1, 1) := by decide +kernel
theorem dX12_keep_18 : decode cX12_keep 18 = .ok (.iconst 1, 1) := by decide +kernel
theorem dX12_keep_19 : decode cX12_keep 19 = .ok (.iadd, 1) := by decide +kernel
theorem dX12_keep_20 : decode cX12_keep 20 = .ok (.putfield 148, 3) := by decide +kernel
theorem dX12_keep_23 : decode cX12_keep 23 = .ok (.aload_n 0, 1) := by decide +kernel
theorem dX12_keep_24 : decode cX12_keep 24 = .ok (.getfield 66, 3) := by decide +kernel
theorem dX12_keep_27 : decode cX12_keep 27 = .ok (.iload_n 1, 1) := by decide +kernel
theorem dX12_keep_28 : decode cX12_keep 28 = .ok (.aload_n 0, 1) := by decide +kernel
theorem dX12_keep_29 : decode cX12_keep 29 = .ok (.getfield 145, 3) := by decide +kernel
theorem dX12_keep_32 : decode cX12_keep 32 = .ok (.iastore, 1) := by decide +kernel
theorem dX12_keep_33 : decode cX12_keep 33 = .ok (.iconst 0, 1) := by decide +kernel
theorem dX12_keep_34 : decode cX12_keep 34 = .ok (.istore_n 2, 1) := by decide +kernel
theorem dX12_keep_35 : decode cX12_keep 35 = .ok (.iload_n 2, 1) := by decide +kernel
theorem dX12_keep_36 : decode cX12_keep 36 = .ok (.iconst 4, 1) := by decide +kernel
theorem dX12_keep_37 : decode cX12_keep 37 = .ok (.if_icmp .ge 62, 3) := by decide +kernel
theorem dX12_keep_40 : decode cX12_keep 40 = .ok (.aload_n 0, 1) := by decide +kernel
theorem dX12_keep_41 : decode cX12_keep 41 = .ok (.getfield 69, 3) := by decide +kernel
theorem dX12_keep_44 : decode cX12_keep 44 = .ok (.iconst 4, 1) := by decide +kernel
theorem dX12_keep_45 : decode cX12_keep 45 = .ok (.iload_n 1, 1) := by decide +kernel
theorem dX12_keep_46 : decode cX12_keep 46 = .ok (.imul, 1) := by decide +kernel
theorem dX12_keep_47 : decode cX12_keep 47 = .ok (.iload_n 2, 1) := by decide +kernel
theorem dX12_keep_48 : decode cX12_keep 48 = .ok (.iadd, 1) := by decide +kernel
theorem dX12_keep_49 : decode cX12_keep 49 = .ok (.aload_n 0, 1) := by decide +kernel
theorem dX12_keep_50 : decode cX12_keep 50 = .ok (.getfield 20, 3) := by decide +kernel
theorem dX12_keep_53 : decode cX12_keep 53 = .ok (.iload_n 2, 1) := by decide +kernel
theorem dX12_keep_54 : decode cX12_keep 54 = .ok (.iaload, 1) := by decide +kernel
theorem dX12_keep_55 : decode cX12_keep 55 = .ok (.iastore, 1) := by decide +kernel
theorem dX12_keep_56 : decode cX12_keep 56 = .ok (.aload_n 0, 1) := by decide +kernel
theorem dX12_keep_57 : decode cX12_keep 57 = .ok (.getfield 57, 3) := by decide +kernel
theorem dX12_keep_60 : decode cX12_keep 60 = .ok (.iconst 4, 1) := by decide +kernel
theorem dX12_keep_61 : decode cX12_keep 61 = .ok (.iload_n 1, 1) := by decide +kernel
theorem dX12_keep_62 : decode cX12_keep 62 = .ok (.imul, 1) := by decide +kernel
theorem dX12_keep_63 : decode cX12_keep 63 = .ok (.iload_n 2, 1) := by decide +kernel
theorem dX12_keep_64 : decode cX12_keep 64 = .ok (.iadd, 1) := by decide +kernel
theorem dX12_keep_65 : decode cX12_keep 65 = .ok (.aload_n 0, 1) := by decide +kernel
theorem dX12_keep_66 : decode cX12_keep 66 = .ok (.getfield 48, 3) := by decide +kernel
theorem dX12_keep_69 : decode cX12_keep 69 = .ok (.iload_n 2, 1) := by decide +kernel
theorem dX12_keep_70 : decode cX12_keep 70 = .ok (.iaload, 1) := by decide +kernel
theorem dX12_keep_71 : decode cX12_keep 71 = .ok (.iastore, 1) := by decide +kernel
theorem dX12_keep_72 : decode cX12_keep 72 = .ok (.iload_n 2, 1) := by decide +kernel
theorem dX12_keep_73 : decode cX12_keep 73 = .ok (.iconst 3, 1) := by decide +kernel
theorem dX12_keep_74 : decode cX12_keep 74 = .ok (.if_icmp .ge 19, 3) := by decide +kernel
theorem dX12_keep_77 : decode cX12_keep 77 = .ok (.aload_n 0, 1) := by decide +kernel
theorem dX12_keep_78 : decode cX12_keep 78 = .ok (.getfield 72, 3) := by decide +kernel
theorem dX12_keep_81 : decode cX12_keep 81 = .ok (.iconst 3, 1) := by decide +kernel
theorem dX12_keep_82 : decode cX12_keep 82 = .ok (.iload_n 1, 1) := by decide +kernel
theorem dX12_keep_83 : decode cX12_keep 83 = .ok (.imul, 1) := by decide +kernel
theorem dX12_keep_84 : decode cX12_keep 84 = .ok (.iload_n 2, 1) := by decide +kernel
theorem dX12_keep_85 : decode cX12_keep 85 = .ok (.iadd, 1) := by decide +kernel
theorem dX12_keep_86 : decode cX12_keep 86 = .ok (.aload_n 0, 1) := by decide +kernel
theorem dX12_keep_87 : decode cX12_keep 87 = .ok (.getfield 23, 3) := by decide +kernel
theorem dX12_keep_90 : decode cX12_keep 90 = .ok (.iload_n 2, 1) := by decide +kernel
theorem dX12_keep_91 : decode cX12_keep 91 = .ok (.iaload, 1) := by decide +kernel
theorem dX12_keep_92 : decode cX12_keep 92 = .ok (.iastore, 1) := by decide +kernel
theorem dX12_keep_93 : decode cX12_keep 93 = .ok (.iinc 2 1, 3) := by decide +kernel
theorem dX12_keep_96 : decode cX12_keep 96 = .ok (.goto (-61), 3) := by decide +kernel
theorem dX12_keep_99 : decode cX12_keep 99 = .ok (.iconst 0, 1) := by decide +kernel
theorem dX12_keep_100 : decode cX12_keep 100 = .ok (.istore_n 2, 1) := by decide +kernel
theorem dX12_keep_101 : decode cX12_keep 101 = .ok (.iload_n 2, 1) := by decide +kernel
theorem dX12_keep_102 : decode cX12_keep 102 = .ok (.bipush 20, 2) := by decide +kernel
theorem dX12_keep_104 : decode cX12_keep 104 = .ok (.if_icmp .ge 43, 3) := by decide +kernel
theorem dX12_keep_107 : decode cX12_keep 107 = .ok (.aload_n 0, 1) := by decide +kernel
theorem dX12_keep_108 : decode cX12_keep 108 = .ok (.getfield 60, 3) := by decide +kernel
theorem dX12_keep_111 : decode cX12_keep 111 = .ok (.bipush 20, 2) := by decide +kernel
theorem dX12_keep_113 : decode cX12_keep 113 = .ok (.iload_n 1, 1) := by decide +kernel
theorem dX12_keep_114 : decode cX12_keep 114 = .ok (.imul, 1) := by decide +kernel
theorem dX12_keep_115 : decode cX12_keep 115 = .ok (.iload_n 2, 1) := by decide +kernel
theorem dX12_keep_116 : decode cX12_keep 116 = .ok (.iadd, 1) := by decide +kernel
theorem dX12_keep_117 : decode cX12_keep 117 = .ok (.aload_n 0, 1) := by decide +kernel
theorem dX12_keep_118 : decode cX12_keep 118 = .ok (.getfield 51, 3) := by decide +kernel
theorem dX12_keep_121 : decode cX12_keep 121 = .ok (.iload_n 2, 1) := by decide +kernel
theorem dX12_keep_122 : decode cX12_keep 122 = .ok (.iaload, 1) := by decide +kernel
theorem dX12_keep_123 : decode cX12_keep 123 = .ok (.iastore, 1) := by decide +kernel
theorem dX12_keep_124 : decode cX12_keep 124 = .ok (.aload_n 0, 1) := by decide +kernel
theorem dX12_keep_125 : decode cX12_keep 125 = .ok (.getfield 63, 3) := by decide +kernel
theorem dX12_keep_128 : decode cX12_keep 128 = .ok (.bipush 20, 2) := by decide +kernel
theorem dX12_keep_130 : decode cX12_keep 130 = .ok (.iload_n 1, 1) := by decide +kernel
theorem dX12_keep_131 : decode cX12_keep 131 = .ok (.imul, 1) := by decide +kernel
theorem dX12_keep_132 : decode cX12_keep 132 = .ok (.iload_n 2, 1) := by decide +kernel
theorem dX12_keep_133 : decode cX12_keep 133 = .ok (.iadd, 1) := by decide +kernel
theorem dX12_keep_134 : decode cX12_keep 134 = .ok (.aload_n 0, 1) := by decide +kernel
theorem dX12_keep_135 : decode cX12_keep 135 = .ok (.getfield 54, 3) := by decide +kernel
theorem dX12_keep_138 : decode cX12_keep 138 = .ok (.iload_n 2, 1) := by decide +kernel
theorem dX12_keep_139 : decode cX12_keep 139 = .ok (.iaload, 1) := by decide +kernel
theorem dX12_keep_140 : decode cX12_keep 140 = .ok (.iastore, 1) := by decide +kernel
theorem dX12_keep_141 : decode cX12_keep 141 = .ok (.iinc 2 1, 3) := by decide +kernel
theorem dX12_keep_144 : decode cX12_keep 144 = .ok (.goto (-43), 3) := by decide +kernel
theorem dX12_keep_147 : decode cX12_keep 147 = .ok (.aload_n 0, 1) := by decide +kernel
theorem dX12_keep_148 : decode cX12_keep 148 = .ok (.getfield 148, 3) := by decide +kernel
theorem dX12_keep_151 : decode cX12_keep 151 = .ok (.ireturn, 1) := by decide +kernel
theorem dX12_undo_0 : decode cX12_undo 0 = .ok (.aload_n 0, 1) := by decide +kernel
theorem dX12_undo_1 : decode cX12_undo 1 = .ok (.getfield 148, 3) := by decide +kernel
theorem dX12_undo_4 : decode cX12_undo 4 = .ok (.ifCond .ne 5, 3) := by decide +kernel
theorem dX12_undo_7 : decode cX12_undo 7 = .ok (.iconst (-1), 1) := by decide +kernel
theorem dX12_undo_8 : decode cX12_undo 8 = .ok (.ireturn, 1) := by decide +kernel
theorem dX12_undo_9 : decode cX12_undo 9 = .ok (.aload_n 0, 1) := by decide +kernel
theorem dX12_undo_10 : decode cX12_undo 10 = .ok (.getfield 148, 3) := by decide +kernel
theorem dX12_undo_13 : decode cX12_undo 13 = .ok (.iconst 1, 1) := by decide +kernel
theorem dX12_undo_14 : decode cX12_undo 14 = .ok (.isub, 1) := by decide +kernel
theorem dX12_undo_15 : decode cX12_undo 15 = .ok (.istore_n 1, 1) := by decide +kernel
theorem dX12_undo_16 : decode cX12_undo 16 = .ok (.aload_n 0, 1) := by decide +kernel
theorem dX12_undo_17 : decode cX12_undo 17 = .ok (.iload_n 1, 1) := by decide +kernel
theorem dX12_undo_18 : decode cX12_undo 18 = .ok (.putfield 148, 3) := by decide +kernel
theorem dX12_undo_21 : decode cX12_undo 21 = .ok (.aload_n 0, 1) := by decide +kernel
theorem dX12_undo_22 : decode cX12_undo 22 = .ok (.aload_n 0, 1) := by decide +kernel
theorem dX12_undo_23 : decode cX12_undo 23 = .ok (.getfield 66, 3) := by decide +kernel
theorem dX12_undo_26 : decode cX12_undo 26 = .ok (.iload_n 1, 1) := by decide +kernel
theorem dX12_undo_27 : decode cX12_undo 27 = .ok (.iaload, 1) := by decide +kernel
theorem dX12_undo_28 : decode cX12_undo 28 = .ok (.putfield 145, 3) := by decide +kernel
theorem dX12_undo_31 : decode cX12_undo 31 = .ok (.iconst 0, 1) := by decide +kernel
theorem dX12_undo_32 : decode cX12_undo 32 = .ok (.istore_n 2, 1) := by decide +kernel
theorem dX12_undo_33 : decode cX12_undo 33 = .ok (.iload_n 2, 1) := by decide +kernel
theorem dX12_undo_34 : decode cX12_undo 34 = .ok (.iconst 4, 1) := by decide +kernel
theorem dX12_undo_35 : decode cX12_undo 35 = .ok (.if_icmp .ge 62, 3) := by decide +kernel
theorem dX12_undo_38 : decode cX12_undo 38 = .ok (.aload_n 0, 1) := by decide +kernel
theorem dX12_undo_39 : decode cX12_undo 39 = .ok (.getfield 20, 3) := by decide +kernel
theorem dX12_undo_42 : decode cX12_undo 42 = .ok (.iload_n 2, 1) := by decide +kernel
theorem dX12_undo_43 : decode cX12_undo 43 = .ok (.aload_n 0, 1) := by decide +kernel
theorem dX12_undo_44 : decode cX12_undo 44 = .ok (.getfield 69, 3) := by decide +kernel
theorem dX12_undo_47 : decode cX12_undo 47 = .ok (.iconst 4, 1) := by decide +kernel
theorem dX12_undo_48 : decode cX12_undo 48 = .ok (.iload_n 1, 1) := by decide +kernel
theorem dX12_undo_49 : decode cX12_undo 49 = .ok (.imul, 1) := by decide +kernel
theorem dX12_undo_50 : decode cX12_undo 50 = .ok (.iload_n 2, 1) := by decide +kernel
theorem dX12_undo_51 : decode cX12_undo 51 = .ok (.iadd, 1) := by decide +kernel
theorem dX12_undo_52 : decode cX12_undo 52 = .ok (.iaload, 1) := by decide +kernel
theorem dX12_undo_53 : decode cX12_undo 53 = .ok (.iastore, 1) := by decide +kernel
theorem dX12_undo_54 : decode cX12_undo 54 = .ok (.aload_n 0, 1) := by decide +kernel
theorem dX12_undo_55 : decode cX12_undo 55 = .ok (.getfield 48, 3) := by decide +kernel
theorem dX12_undo_58 : decode cX12_undo 58 = .ok (.iload_n 2, 1) := by decide +kernel
theorem dX12_undo_59 : decode cX12_undo 59 = .ok (.aload_n 0, 1) := by decide +kernel
theorem dX12_undo_60 : decode cX12_undo 60 = .ok (.getfield 57, 3) := by decide +kernel
theorem dX12_undo_63 : decode cX12_undo 63 = .ok (.iconst 4, 1) := by decide +kernel
theorem dX12_undo_64 : decode cX12_undo 64 = .ok (.iload_n 1, 1) := by decide +kernel
theorem dX12_undo_65 : decode cX12_undo 65 = .ok (.imul, 1) := by decide +kernel
theorem dX12_undo_66 : decode cX12_undo 66 = .ok (.iload_n 2, 1) := by decide +kernel
theorem dX12_undo_67 : decode cX12_undo 67 = .ok (.iadd, 1) := by decide +kernel
theorem dX12_undo_68 : decode cX12_undo 68 = .ok (.iaload, 1) := by decide +kernel
theorem dX12_undo_69 : decode cX12_undo 69 = .ok (.iastore, 1) := by decide +kernel
theorem dX12_undo_70 : decode cX12_undo 70 = .ok (.iload_n 2, 1) := by decide +kernel
theorem dX12_undo_71 : decode cX12_undo 71 = .ok (.iconst 3, 1) := by decide +kernel
theorem dX12_undo_72 : decode cX12_undo 72 = .ok (.if_icmp .ge 19, 3) := by decide +kernel
theorem dX12_undo_75 : decode cX12_undo 75 = .ok (.aload_n 0, 1) := by decide +kernel
theorem dX12_undo_76 : decode cX12_undo 76 = .ok (.getfield 23, 3) := by decide +kernel
theorem dX12_undo_79 : decode cX12_undo 79 = .ok (.iload_n 2, 1) := by decide +kernel
theorem dX12_undo_80 : decode cX12_undo 80 = .ok (.aload_n 0, 1) := by decide +kernel
theorem dX12_undo_81 : decode cX12_undo 81 = .ok (.getfield 72, 3) := by decide +kernel
theorem dX12_undo_84 : decode cX12_undo 84 = .ok (.iconst 3, 1) := by decide +kernel
theorem dX12_undo_85 : decode cX12_undo 85 = .ok (.iload_n 1, 1) := by decide +kernel
theorem dX12_undo_86 : decode cX12_undo 86 = .ok (.imul, 1) := by decide +kernel
theorem dX12_undo_87 : decode cX12_undo 87 = .ok (.iload_n 2, 1) := by decide +kernel
theorem dX12_undo_88 : decode cX12_undo 88 = .ok (.iadd, 1) := by decide +kernel
theorem dX12_undo_89 : decode cX12_undo 89 = .ok (.iaload, 1) := by decide +kernel
theorem dX12_undo_90 : decode cX12_undo 90 = .ok (.iastore, 1) := by decide +kernel
theorem dX12_undo_91 : decode cX12_undo 91 = .ok (.iinc 2 1, 3) := by decide +kernel
theorem dX12_undo_94 : decode cX12_undo 94 = .ok (.goto (-61), 3) := by decide +kernel
theorem dX12_undo_97 : decode cX12_undo 97 = .ok (.iconst 0, 1) := by decide +kernel
theorem dX12_undo_98 : decode cX12_undo 98 = .ok (.istore_n 2, 1) := by decide +kernel
theorem dX12_undo_99 : decode cX12_undo 99 = .ok (.iload_n 2, 1) := by decide +kernel
theorem dX12_undo_100 : decode cX12_undo 100 = .ok (.bipush 20, 2) := by decide +kernel
theorem dX12_undo_102 : decode cX12_undo 102 = .ok (.if_icmp .ge 43, 3) := by decide +kernel
theorem dX12_undo_105 : decode cX12_undo 105 = .ok (.aload_n 0, 1) := by decide +kernel
theorem dX12_undo_106 : decode cX12_undo 106 = .ok (.getfield 51, 3) := by decide +kernel
theorem dX12_undo_109 : decode cX12_undo 109 = .ok (.iload_n 2, 1) := by decide +kernel
theorem dX12_undo_110 : decode cX12_undo 110 = .ok (.aload_n 0, 1) := by decide +kernel
theorem dX12_undo_111 : decode cX12_undo 111 = .ok (.getfield 60, 3) := by decide +kernel
theorem dX12_undo_114 : decode cX12_undo 114 = .ok (.bipush 20, 2) := by decide +kernel
theorem dX12_undo_116 : decode cX12_undo 116 = .ok (.iload_n 1, 1) := by decide +kernel
theorem dX12_undo_117 : decode cX12_undo 117 = .ok (.imul, 1) := by decide +kernel
theorem dX12_undo_118 : decode cX12_undo 118 = .ok (.iload_n 2, 1) := by decide +kernel
theorem dX12_undo_119 : decode cX12_undo 119 = .ok (.iadd, 1) := by decide +kernel
theorem dX12_undo_120 : decode cX12_undo 120 = .ok (.iaload, 1) := by decide +kernel
theorem dX12_undo_121 : decode cX12_undo 121 = .ok (.iastore, 1) := by decide +kernel
theorem dX12_undo_122 : decode cX12_undo 122 = .ok (.aload_n 0, 1) := by decide +kernel
theorem dX12_undo_123 : decode cX12_undo 123 = .ok (.getfield 54, 3) := by decide +kernel
theorem dX12_undo_126 : decode cX12_undo 126 = .ok (.iload_n 2, 1) := by decide +kernel
theorem dX12_undo_127 : decode cX12_undo 127 = .ok (.aload_n 0, 1) := by decide +kernel
theorem dX12_undo_128 : decode cX12_undo 128 = .ok (.getfield 63, 3) := by decide +kernel
theorem dX12_undo_131 : decode cX12_undo 131 = .ok (.bipush 20, 2) := by decide +kernel
theorem dX12_undo_133 : decode cX12_undo 133 = .ok (.iload_n 1, 1) := by decide +kernel
theorem dX12_undo_134 : decode cX12_undo 134 = .ok (.imul, 1) := by decide +kernel
theorem dX12_undo_135 : decode cX12_undo 135 = .ok (.iload_n 2, 1) := by decide +kernel
theorem dX12_undo_136 : decode cX12_undo 136 = .ok (.iadd, 1) := by decide +kernel
theorem dX12_undo_137 : decode cX12_undo 137 = .ok (.iaload, 1) := by decide +kernel
theorem dX12_undo_138 : decode cX12_undo 138 = .ok (.iastore, 1) := by decide +kernel
theorem dX12_undo_139 : decode cX12_undo 139 = .ok (.iinc 2 1, 3) := by decide +kernel
theorem dX12_undo_142 : decode cX12_undo 142 = .ok (.goto (-43), 3) := by decide +kernel
theorem dX12_undo_145 : decode cX12_undo 145 = .ok (.aload_n 0, 1) := by decide +kernel
theorem dX12_undo_146 : decode cX12_undo 146 = .ok (.getfield 148, 3) := by decide +kernel
theorem dX12_undo_149 : decode cX12_undo 149 = .ok (.ireturn, 1) := by decide +kernel
theorem dL_law_0 : decode cL_law 0 = .ok (.new 7, 3) := by decide +kernel
theorem dL_law_3 : decode cL_law 3 = .ok (.dup, 1) := by decide +kernel
theorem dL_law_4 : decode cL_law 4 = .ok (.invokespecial 9, 3) := by decide +kernel
theorem dL_law_7 : decode cL_law 7 = .ok (.astore_n 1, 1) := by decide +kernel
theorem dL_law_8 : decode cL_law 8 = .ok (.new 10, 3) := by decide +kernel
theorem dL_law_11 : decode cL_law 11 = .ok (.dup, 1) := by decide +kernel
theorem dL_law_12 : decode cL_law 12 = .ok (.invokespecial 12, 3) := by decide +kernel
theorem dL_law_15 : decode cL_law 15 = .ok (.astore_n 2, 1) := by decide +kernel
theorem dL_law_16 : decode cL_law 16 = .ok (.iconst 0, 1) := by decide +kernel
theorem dL_law_17 : decode cL_law 17 = .ok (.istore_n 3, 1) := by decide +kernel
theorem dL_law_18 : decode cL_law 18 = .ok (.iload_n 3, 1) := by decide +kernel
theorem dL_law_19 : decode cL_law 19 = .ok (.aload_n 0, 1) := by decide +kernel
theorem dL_law_20 : decode cL_law 20 = .ok (.arraylength, 1) := by decide +kernel
theorem dL_law_21 : decode cL_law 21 = .ok (.bipush 6, 2) := by decide +kernel
theorem dL_law_23 : decode cL_law 23 = .ok (.isub, 1) := by decide +kernel
theorem dL_law_24 : decode cL_law 24 = .ok (.if_icmp .gt 2094, 3) := by decide +kernel
theorem dL_law_27 : decode cL_law 27 = .ok (.aload_n 0, 1) := by decide +kernel
theorem dL_law_28 : decode cL_law 28 = .ok (.iload_n 3, 1) := by decide +kernel
theorem dL_law_29 : decode cL_law 29 = .ok (.iaload, 1) := by decide +kernel
theorem dL_law_30 : decode cL_law 30 = .ok (.bipush 63, 2) := by decide +kernel
theorem dL_law_32 : decode cL_law 32 = .ok (.iand, 1) := by decide +kernel
theorem dL_law_33 : decode cL_law 33 = .ok (.tableswitch 2079 0 48 #[211, 274, 297, 320, 370, 394, 428, 462, 522, 566, 610, 654, 678, 712, 746, 760, 783, 796, 819, 878, 911, 944, 977, 1046, 1105, 1149, 1193, 1246, 1299, 1332, 1386, 1429, 1472, 1505, 1585, 1639, 1673, 1727, 1770, 1829, 1862, 1905, 1938, 1951, 1984, 1997, 2030, 2053, 2066], 211) := by decide +kernel
theorem dL_law_244 : decode cL_law 244 = .ok (.aload_n 1, 1) := by decide +kernel
theorem dL_law_245 : decode cL_law 245 = .ok (.aload_n 0, 1) := by decide +kernel
theorem dL_law_246 : decode cL_law 246 = .ok (.iload_n 3, 1) := by decide +kernel
theorem dL_law_247 : decode cL_law 247 = .ok (.iconst 1, 1) := by decide +kernel
theorem dL_law_248 : decode cL_law 248 = .ok (.iadd, 1) := by decide +kernel
theorem dL_law_249 : decode cL_law 249 = .ok (.iaload, 1) := by decide +kernel
theorem dL_law_250 : decode cL_law 250 = .ok (.aload_n 0, 1) := by decide +kernel
theorem dL_law_251 : decode cL_law 251 = .ok (.iload_n 3, 1) := by decide +kernel
theorem dL_law_252 : decode cL_law 252 = .ok (.iconst 2, 1) := by decide +kernel
theorem dL_law_253 : decode cL_law 253 = .ok (.iadd, 1) := by decide +kernel
theorem dL_law_254 : decode cL_law 254 = .ok (.iaload, 1) := by decide +kernel
theorem dL_law_255 : decode cL_law 255 = .ok (.aload_n 0, 1) := by decide +kernel
theorem dL_law_256 : decode cL_law 256 = .ok (.iload_n 3, 1) := by decide +kernel
theorem dL_law_257 : decode cL_law 257 = .ok (.iconst 3, 1) := by decide +kernel
theorem dL_law_258 : decode cL_law 258 = .ok (.iadd, 1) := by decide +kernel
theorem dL_law_259 : decode cL_law 259 = .ok (.iaload, 1) := by decide +kernel
theorem dL_law_260 : decode cL_law 260 = .ok (.aload_n 0, 1) := by decide +kernel
theorem dL_law_261 : decode cL_law 261 = .ok (.iload_n 3, 1) := by decide +kernel
theorem dL_law_262 : decode cL_law 262 = .ok (.iconst 4, 1) := by decide +kernel
theorem dL_law_263 : decode cL_law 263 = .ok (.iadd, 1) := by decide +kernel
theorem dL_law_264 : decode cL_law 264 = .ok (.iaload, 1) := by decide +kernel
theorem dL_law_265 : decode cL_law 265 = .ok (.aload_n 0, 1) := by decide +kernel
theorem dL_law_266 : decode cL_law 266 = .ok (.iload_n 3, 1) := by decide +kernel
theorem dL_law_267 : decode cL_law 267 = .ok (.iconst 5, 1) := by decide +kernel
theorem dL_law_268 : decode cL_law 268 = .ok (.iadd, 1) := by decide +kernel
theorem dL_law_269 : decode cL_law 269 = .ok (.iaload, 1) := by decide +kernel
theorem dL_law_270 : decode cL_law 270 = .ok (.invokevirtual 13, 3) := by decide +kernel
theorem dL_law_273 : decode cL_law 273 = .ok (.aload_n 2, 1) := by decide +kernel
theorem dL_law_274 : decode cL_law 274 = .ok (.aload_n 0, 1) := by decide +kernel
theorem dL_law_275 : decode cL_law 275 = .ok (.iload_n 3, 1) := by decide +kernel
theorem dL_law_276 : decode cL_law 276 = .ok (.iconst 1, 1) := by decide +kernel
theorem dL_law_277 : decode cL_law 277 = .ok (.iadd, 1) := by decide +kernel
theorem dL_law_278 : decode cL_law 278 = .ok (.iaload, 1) := by decide +kernel
theorem dL_law_279 : decode cL_law 279 = .ok (.aload_n 0, 1) := by decide +kernel
theorem dL_law_280 : decode cL_law 280 = .ok (.iload_n 3, 1) := by decide +kernel
theorem dL_law_281 : decode cL_law 281 = .ok (.iconst 2, 1) := by decide +kernel
theorem dL_law_282 : decode cL_law 282 = .ok (.iadd, 1) := by decide +kernel
theorem dL_law_283 : decode cL_law 283 = .ok (.iaload, 1) := by decide +kernel
theorem dL_law_284 : decode cL_law 284 = .ok (.aload_n 0, 1) := by decide +kernel
theorem dL_law_285 : decode cL_law 285 = .ok (.iload_n 3, 1) := by decide +kernel
theorem dL_law_286 : decode cL_law 286 = .ok (.iconst 3, 1) := by decide +kernel
theorem dL_law_287 : decode cL_law 287 = .ok (.iadd, 1) := by decide +kernel
theorem dL_law_288 : decode cL_law 288 = .ok (.iaload, 1) := by decide +kernel
theorem dL_law_289 : decode cL_law 289 = .ok (.aload_n 0, 1) := by decide +kernel
theorem dL_law_290 : decode cL_law 290 = .ok (.iload_n 3, 1) := by decide +kernel
theorem dL_law_291 : decode cL_law 291 = .ok (.iconst 4, 1) := by decide +kernel
theorem dL_law_292 : decode cL_law 292 = .ok (.iadd, 1) := by decide +kernel
theorem dL_law_293 : decode cL_law 293 = .ok (.iaload, 1) := by decide +kernel
theorem dL_law_294 : decode cL_law 294 = .ok (.aload_n 0, 1) := by decide +kernel
theorem dL_law_295 : decode cL_law 295 = .ok (.iload_n 3, 1) := by decide +kernel
theorem dL_law_296 : decode cL_law 296 = .ok (.iconst 5, 1) := by decide +kernel
theorem dL_law_297 : decode cL_law 297 = .ok (.iadd, 1) := by decide +kernel
theorem dL_law_298 : decode cL_law 298 = .ok (.iaload, 1) := by decide +kernel
theorem dL_law_299 : decode cL_law 299 = .ok (.invokevirtual 17, 3) := by decide +kernel
theorem dL_law_302 : decode cL_law 302 = .ok (.if_icmp .eq 1810, 3) := by decide +kernel
theorem dL_law_305 : decode cL_law 305 = .ok (.iconst 0, 1) := by decide +kernel
theorem dL_law_306 : decode cL_law 306 = .ok (.ireturn, 1) := by decide +kernel
theorem dL_law_307 : decode cL_law 307 = .ok (.aload_n 1, 1) := by decide +kernel
theorem dL_law_308 : decode cL_law 308 = .ok (.aload_n 0, 1) := by decide +kernel
theorem dL_law_309 : decode cL_law 309 = .ok (.iload_n 3, 1) := by decide +kernel
theorem dL_law_310 : decode cL_law 310 = .ok (.iconst 1, 1) := by decide +kernel
theorem dL_law_311 : decode cL_law 311 = .ok (.iadd, 1) := by decide +kernel
theorem dL_law_312 : decode cL_law 312 = .ok (.iaload, 1) := by decide +kernel
theorem dL_law_313 : decode cL_law 313 = .ok (.invokevirtual 18, 3) := by decide +kernel
theorem dL_law_316 : decode cL_law 316 = .ok (.aload_n 2, 1) := by decide +kernel
theorem dL_law_317 : decode cL_law 317 = .ok (.aload_n 0, 1) := by decide +kernel
theorem dL_law_318 : decode cL_law 318 = .ok (.iload_n 3, 1) := by decide +kernel
theorem dL_law_319 : decode cL_law 319 = .ok (.iconst 1, 1) := by decide +kernel
theorem dL_law_320 : decode cL_law 320 = .ok (.iadd, 1) := by decide +kernel
theorem dL_law_321 : decode cL_law 321 = .ok (.iaload, 1) := by decide +kernel
theorem dL_law_322 : decode cL_law 322 = .ok (.invokevirtual 22, 3) := by decide +kernel
theorem dL_law_325 : decode cL_law 325 = .ok (.if_icmp .eq 1787, 3) := by decide +kernel
theorem dL_law_328 : decode cL_law 328 = .ok (.iconst 0, 1) := by decide +kernel
theorem dL_law_329 : decode cL_law 329 = .ok (.ireturn, 1) := by decide +kernel
theorem dL_law_330 : decode cL_law 330 = .ok (.aload_n 1, 1) := by decide +kernel
theorem dL_law_331 : decode cL_law 331 = .ok (.aload_n 0, 1) := by decide +kernel
theorem dL_law_332 : decode cL_law 332 = .ok (.iload_n 3, 1) := by decide +kernel
theorem dL_law_333 : decode cL_law 333 = .ok (.iconst 1, 1) := by decide +kernel
theorem dL_law_334 : decode cL_law 334 = .ok (.iadd, 1) := by decide +kernel
theorem dL_law_335 : decode cL_law 335 = .ok (.iaload, 1) := by decide +kernel
theorem dL_law_336 : decode cL_law 336 = .ok (.invokevirtual 23, 3) := by decide +kernel
theorem dL_law_339 : decode cL_law 339 = .ok (.aload_n 2, 1) := by decide +kernel
theorem dL_law_340 : decode cL_law 340 = .ok (.aload_n 0, 1) := by decide +kernel
theorem dL_law_341 : decode cL_law 341 = .ok (.iload_n 3, 1) := by decide +kernel
theorem dL_law_342 : decode cL_law 342 = .ok (.iconst 1, 1) := by decide +kernel
theorem dL_law_343 : decode cL_law 343 = .ok (.iadd, 1) := by decide +kernel
theorem dL_law_344 : decode cL_law 344 = .ok (.iaload, 1) := by decide +kernel
theorem dL_law_345 : decode cL_law 345 = .ok (.invokevirtual 26, 3) := by decide +kernel
theorem dL_law_348 : decode cL_law 348 = .ok (.if_icmp .eq 1764, 3) := by decide +kernel
theorem dL_law_351 : decode cL_law 351 = .ok (.iconst 0, 1) := by decide +kernel
theorem dL_law_352 : decode cL_law 352 = .ok (.ireturn, 1) := by decide +kernel
theorem dL_law_353 : decode cL_law 353 = .ok (.aload_n 1, 1) := by decide +kernel
theorem dL_law_354 : decode cL_law 354 = .ok (.aload_n 0, 1) := by decide +kernel
theorem dL_law_355 : decode cL_law 355 = .ok (.iload_n 3, 1) := by decide +kernel
theorem dL_law_356 : decode cL_law 356 = .ok (.iconst 1, 1) := by decide +kernel
theorem dL_law_357 : decode cL_law 357 = .ok (.iadd, 1) := by decide +kernel
theorem dL_law_358 : decode cL_law 358 = .ok (.iaload, 1) := by decide +kernel
theorem dL_law_359 : decode cL_law 359 = .ok (.ifCond .eq 7, 3) := by decide +kernel
theorem dL_law_362 : decode cL_law 362 = .ok (.iconst 1, 1) := by decide +kernel
theorem dL_law_363 : decode cL_law 363 = .ok (.goto 4, 3) := by decide +kernel
theorem dL_law_366 : decode cL_law 366 = .ok (.iconst 0, 1) := by decide +kernel
theorem dL_law_367 : decode cL_law 367 = .ok (.aload_n 0, 1) := by decide +kernel
theorem dL_law_368 : decode cL_law 368 = .ok (.iload_n 3, 1) := by decide +kernel
theorem dL_law_369 : decode cL_law 369 = .ok (.iconst 2, 1) := by decide +kernel
theorem dL_law_370 : decode cL_law 370 = .ok (.iadd, 1) := by decide +kernel
theorem dL_law_371 : decode cL_law 371 = .ok (.iaload, 1) := by decide +kernel
theorem dL_law_372 : decode cL_law 372 = .ok (.invokevirtual 27, 3) := by decide +kernel
theorem dL_law_375 : decode cL_law 375 = .ok (.aload_n 2, 1) := by decide +kernel
theorem dL_law_376 : decode cL_law 376 = .ok (.aload_n 0, 1) := by decide +kernel
theorem dL_law_377 : decode cL_law 377 = .ok (.iload_n 3, 1) := by decide +kernel
theorem dL_law_378 : decode cL_law 378 = .ok (.iconst 1, 1) := by decide +kernel
theorem dL_law_379 : decode cL_law 379 = .ok (.iadd, 1) := by decide +kernel
theorem dL_law_380 : decode cL_law 380 = .ok (.iaload, 1) := by decide +kernel
theorem dL_law_381 : decode cL_law 381 = .ok (.ifCond .eq 7, 3) := by decide +kernel
theorem dL_law_384 : decode cL_law 384 = .ok (.iconst 1, 1) := by decide +kernel
theorem dL_law_385 : decode cL_law 385 = .ok (.goto 4, 3) := by decide +kernel
theorem dL_law_388 : decode cL_law 388 = .ok (.iconst 0, 1) := by decide +kernel
theorem dL_law_389 : decode cL_law 389 = .ok (.aload_n 0, 1) := by decide +kernel
theorem dL_law_390 : decode cL_law 390 = .ok (.iload_n 3, 1) := by decide +kernel
theorem dL_law_391 : decode cL_law 391 = .ok (.iconst 2, 1) := by decide +kernel
theorem dL_law_392 : decode cL_law 392 = .ok (.iadd, 1) := by decide +kernel
theorem dL_law_393 : decode cL_law 393 = .ok (.iaload, 1) := by decide +kernel
theorem dL_law_394 : decode cL_law 394 = .ok (.invokevirtual 31, 3) := by decide +kernel
theorem dL_law_397 : decode cL_law 397 = .ok (.lcmp, 1) := by decide +kernel
theorem dL_law_398 : decode cL_law 398 = .ok (.ifCond .eq 1714, 3) := by decide +kernel
theorem dL_law_401 : decode cL_law 401 = .ok (.iconst 0, 1) := by decide +kernel
theorem dL_law_402 : decode cL_law 402 = .ok (.ireturn, 1) := by decide +kernel
theorem dL_law_403 : decode cL_law 403 = .ok (.aload_n 1, 1) := by decide +kernel
theorem dL_law_404 : decode cL_law 404 = .ok (.aload_n 0, 1) := by decide +kernel
theorem dL_law_405 : decode cL_law 405 = .ok (.iload_n 3, 1) := by decide +kernel
theorem dL_law_406 : decode cL_law 406 = .ok (.iconst 1, 1) := by decide +kernel
theorem dL_law_407 : decode cL_law 407 = .ok (.iadd, 1) := by decide +kernel
theorem dL_law_408 : decode cL_law 408 = .ok (.iaload, 1) := by decide +kernel
theorem dL_law_409 : decode cL_law 409 = .ok (.invokevirtual 32, 3) := by decide +kernel
theorem dL_law_412 : decode cL_law 412 = .ok (.aload_n 2, 1) := by decide +kernel
theorem dL_law_413 : decode cL_law 413 = .ok (.aload_n 0, 1) := by decide +kernel
theorem dL_law_414 : decode cL_law 414 = .ok (.iload_n 3, 1) := by decide +kernel
theorem dL_law_415 : decode cL_law 415 = .ok (.iconst 1, 1) := by decide +kernel
theorem dL_law_416 : decode cL_law 416 = .ok (.iadd, 1) := by decide +kernel
theorem dL_law_417 : decode cL_law 417 = .ok (.iaload, 1) := by decide +kernel
theorem dL_law_418 : decode cL_law 418 = .ok (.invokevirtual 36, 3) := by decide +kernel
theorem dL_law_421 : decode cL_law 421 = .ok (.lcmp, 1) := by decide +kernel
theorem dL_law_422 : decode cL_law 422 = .ok (.ifCond .eq 1690, 3) := by decide +kernel
theorem dL_law_425 : decode cL_law 425 = .ok (.iconst 0, 1) := by decide +kernel
theorem dL_law_426 : decode cL_law 426 = .ok (.ireturn, 1) := by decide +kernel
theorem dL_law_427 : decode cL_law 427 = .ok (.aload_n 1, 1) := by decide +kernel
theorem dL_law_428 : decode cL_law 428 = .ok (.aload_n 0, 1) := by decide +kernel
theorem dL_law_429 : decode cL_law 429 = .ok (.iload_n 3, 1) := by decide +kernel
theorem dL_law_430 : decode cL_law 430 = .ok (.iconst 1, 1) := by decide +kernel
theorem dL_law_431 : decode cL_law 431 = .ok (.iadd, 1) := by decide +kernel
theorem dL_law_432 : decode cL_law 432 = .ok (.iaload, 1) := by decide +kernel
theorem dL_law_433 : decode cL_law 433 = .ok (.aload_n 0, 1) := by decide +kernel
theorem dL_law_434 : decode cL_law 434 = .ok (.iload_n 3, 1) := by decide +kernel
theorem dL_law_435 : decode cL_law 435 = .ok (.iconst 2, 1) := by decide +kernel
theorem dL_law_436 : decode cL_law 436 = .ok (.iadd, 1) := by decide +kernel
theorem dL_law_437 : decode cL_law 437 = .ok (.iaload, 1) := by decide +kernel
theorem dL_law_438 : decode cL_law 438 = .ok (.invokevirtual 37, 3) := by decide +kernel
theorem dL_law_441 : decode cL_law 441 = .ok (.aload_n 2, 1) := by decide +kernel
theorem dL_law_442 : decode cL_law 442 = .ok (.aload_n 0, 1) := by decide +kernel
theorem dL_law_443 : decode cL_law 443 = .ok (.iload_n 3, 1) := by decide +kernel
theorem dL_law_444 : decode cL_law 444 = .ok (.iconst 1, 1) := by decide +kernel
theorem dL_law_445 : decode cL_law 445 = .ok (.iadd, 1) := by decide +kernel
theorem dL_law_446 : decode cL_law 446 = .ok (.iaload, 1) := by decide +kernel
theorem dL_law_447 : decode cL_law 447 = .ok (.aload_n 0, 1) := by decide +kernel
theorem dL_law_448 : decode cL_law 448 = .ok (.iload_n 3, 1) := by decide +kernel
theorem dL_law_449 : decode cL_law 449 = .ok (.iconst 2, 1) := by decide +kernel
theorem dL_law_450 : decode cL_law 450 = .ok (.iadd, 1) := by decide +kernel
theorem dL_law_451 : decode cL_law 451 = .ok (.iaload, 1) := by decide +kernel
theorem dL_law_452 : decode cL_law 452 = .ok (.invokevirtual 41, 3) := by decide +kernel
theorem dL_law_455 : decode cL_law 455 = .ok (.lcmp, 1) := by decide +kernel
theorem dL_law_456 : decode cL_law 456 = .ok (.ifCond .eq 1656, 3) := by decide +kernel
theorem dL_law_459 : decode cL_law 459 = .ok (.iconst 0, 1) := by decide +kernel
theorem dL_law_460 : decode cL_law 460 = .ok (.ireturn, 1) := by decide +kernel
theorem dL_law_461 : decode cL_law 461 = .ok (.aload_n 1, 1) := by decide +kernel
theorem dL_law_462 : decode cL_law 462 = .ok (.aload_n 0, 1) := by decide +kernel
theorem dL_law_463 : decode cL_law 463 = .ok (.iload_n 3, 1) := by decide +kernel
theorem dL_law_464 : decode cL_law 464 = .ok (.iconst 1, 1) := by decide +kernel
theorem dL_law_465 : decode cL_law 465 = .ok (.iadd, 1) := by decide +kernel
theorem dL_law_466 : decode cL_law 466 = .ok (.iaload, 1) := by decide +kernel
theorem dL_law_467 : decode cL_law 467 = .ok (.aload_n 0, 1) := by decide +kernel
theorem dL_law_468 : decode cL_law 468 = .ok (.iload_n 3, 1) := by decide +kernel
theorem dL_law_469 : decode cL_law 469 = .ok (.iconst 2, 1) := by decide +kernel
theorem dL_law_470 : decode cL_law 470 = .ok (.iadd, 1) := by decide +kernel
theorem dL_law_471 : decode cL_law 471 = .ok (.iaload, 1) := by decide +kernel
theorem dL_law_472 : decode cL_law 472 = .ok (.invokevirtual 42, 3) := by decide +kernel
theorem dL_law_475 : decode cL_law 475 = .ok (.aload_n 2, 1) := by decide +kernel
theorem dL_law_476 : decode cL_law 476 = .ok (.aload_n 0, 1) := by decide +kernel
theorem dL_law_477 : decode cL_law 477 = .ok (.iload_n 3, 1) := by decide +kernel
theorem dL_law_478 : decode cL_law 478 = .ok (.iconst 1, 1) := by decide +kernel
theorem dL_law_479 : decode cL_law 479 = .ok (.iadd, 1) := by decide +kernel
theorem dL_law_480 : decode cL_law 480 = .ok (.iaload, 1) := by decide +kernel
theorem dL_law_481 : decode cL_law 481 = .ok (.aload_n 0, 1) := by decide +kernel
theorem dL_law_482 : decode cL_law 482 = .ok (.iload_n 3, 1) := by decide +kernel
theorem dL_law_483 : decode cL_law 483 = .ok (.iconst 2, 1) := by decide +kernel
theorem dL_law_484 : decode cL_law 484 = .ok (.iadd, 1) := by decide +kernel
theorem dL_law_485 : decode cL_law 485 = .ok (.iaload, 1) := by decide +kernel
theorem dL_law_486 : decode cL_law 486 = .ok (.invokevirtual 45, 3) := by decide +kernel
theorem dL_law_489 : decode cL_law 489 = .ok (.lcmp, 1) := by decide +kernel
theorem dL_law_490 : decode cL_law 490 = .ok (.ifCond .eq 1622, 3) := by decide +kernel
theorem dL_law_493 : decode cL_law 493 = .ok (.iconst 0, 1) := by decide +kernel
theorem dL_law_494 : decode cL_law 494 = .ok (.ireturn, 1) := by decide +kernel
theorem dL_law_495 : decode cL_law 495 = .ok (.aload_n 1, 1) := by decide +kernel
theorem dL_law_496 : decode cL_law 496 = .ok (.aload_n 0, 1) := by decide +kernel
theorem dL_law_497 : decode cL_law 497 = .ok (.iload_n 3, 1) := by decide +kernel
theorem dL_law_498 : decode cL_law 498 = .ok (.iconst 1, 1) := by decide +kernel
theorem dL_law_499 : decode cL_law 499 = .ok (.iadd, 1) := by decide +kernel
theorem dL_law_500 : decode cL_law 500 = .ok (.iaload, 1) := by decide +kernel
theorem dL_law_501 : decode cL_law 501 = .ok (.ifCond .eq 7, 3) := by decide +kernel
theorem dL_law_504 : decode cL_law 504 = .ok (.iconst 1, 1) := by decide +kernel
theorem dL_law_505 : decode cL_law 505 = .ok (.goto 4, 3) := by decide +kernel
theorem dL_law_508 : decode cL_law 508 = .ok (.iconst 0, 1) := by decide +kernel
theorem dL_law_509 : decode cL_law 509 = .ok (.aload_n 0, 1) := by decide +kernel
theorem dL_law_510 : decode cL_law 510 = .ok (.iload_n 3, 1) := by decide +kernel
theorem dL_law_511 : decode cL_law 511 = .ok (.iconst 2, 1) := by decide +kernel
theorem dL_law_512 : decode cL_law 512 = .ok (.iadd, 1) := by decide +kernel
theorem dL_law_513 : decode cL_law 513 = .ok (.iaload, 1) := by decide +kernel
theorem dL_law_514 : decode cL_law 514 = .ok (.aload_n 0, 1) := by decide +kernel
theorem dL_law_515 : decode cL_law 515 = .ok (.iload_n 3, 1) := by decide +kernel
theorem dL_law_516 : decode cL_law 516 = .ok (.iconst 3, 1) := by decide +kernel
theorem dL_law_517 : decode cL_law 517 = .ok (.iadd, 1) := by decide +kernel
theorem dL_law_518 : decode cL_law 518 = .ok (.iaload, 1) := by decide +kernel
theorem dL_law_519 : decode cL_law 519 = .ok (.invokevirtual 46, 3) := by decide +kernel
theorem dL_law_522 : decode cL_law 522 = .ok (.aload_n 2, 1) := by decide +kernel
theorem dL_law_523 : decode cL_law 523 = .ok (.aload_n 0, 1) := by decide +kernel
theorem dL_law_524 : decode cL_law 524 = .ok (.iload_n 3, 1) := by decide +kernel
theorem dL_law_525 : decode cL_law 525 = .ok (.iconst 1, 1) := by decide +kernel
theorem dL_law_526 : decode cL_law 526 = .ok (.iadd, 1) := by decide +kernel
theorem dL_law_527 : decode cL_law 527 = .ok (.iaload, 1) := by decide +kernel
theorem dL_law_528 : decode cL_law 528 = .ok (.ifCond .eq 7, 3) := by decide +kernel
theorem dL_law_531 : decode cL_law 531 = .ok (.iconst 1, 1) := by decide +kernel
theorem dL_law_532 : decode cL_law 532 = .ok (.goto 4, 3) := by decide +kernel
theorem dL_law_535 : decode cL_law 535 = .ok (.iconst 0, 1) := by decide +kernel
theorem dL_law_536 : decode cL_law 536 = .ok (.aload_n 0, 1) := by decide +kernel
theorem dL_law_537 : decode cL_law 537 = .ok (.iload_n 3, 1) := by decide +kernel
theorem dL_law_538 : decode cL_law 538 = .ok (.iconst 2, 1) := by decide +kernel
theorem dL_law_539 : decode cL_law 539 = .ok (.iadd, 1) := by decide +kernel
theorem dL_law_540 : decode cL_law 540 = .ok (.iaload, 1) := by decide +kernel
theorem dL_law_541 : decode cL_law 541 = .ok (.aload_n 0, 1) := by decide +kernel
theorem dL_law_542 : decode cL_law 542 = .ok (.iload_n 3, 1) := by decide +kernel
theorem dL_law_543 : decode cL_law 543 = .ok (.iconst 3, 1) := by decide +kernel
theorem dL_law_544 : decode cL_law 544 = .ok (.iadd, 1) := by decide +kernel
theorem dL_law_545 : decode cL_law 545 = .ok (.iaload, 1) := by decide +kernel
theorem dL_law_546 : decode cL_law 546 = .ok (.invokevirtual 50, 3) := by decide +kernel
theorem dL_law_549 : decode cL_law 549 = .ok (.lcmp, 1) := by decide +kernel
theorem dL_law_550 : decode cL_law 550 = .ok (.ifCond .eq 1562, 3) := by decide +kernel
theorem dL_law_553 : decode cL_law 553 = .ok (.iconst 0, 1) := by decide +kernel
theorem dL_law_554 : decode cL_law 554 = .ok (.ireturn, 1) := by decide +kernel
theorem dL_law_555 : decode cL_law 555 = .ok (.aload_n 1, 1) := by decide +kernel
theorem dL_law_556 : decode cL_law 556 = .ok (.aload_n 0, 1) := by decide +kernel
theorem dL_law_557 : decode cL_law 557 = .ok (.iload_n 3, 1) := by decide +kernel
theorem dL_law_558 : decode cL_law 558 = .ok (.iconst 1, 1) := by decide +kernel
theorem dL_law_559 : decode cL_law 559 = .ok (.iadd, 1) := by decide +kernel
theorem dL_law_560 : decode cL_law 560 = .ok (.iaload, 1) := by decide +kernel
theorem dL_law_561 : decode cL_law 561 = .ok (.aload_n 0, 1) := by decide +kernel
theorem dL_law_562 : decode cL_law 562 = .ok (.iload_n 3, 1) := by decide +kernel
theorem dL_law_563 : decode cL_law 563 = .ok (.iconst 2, 1) := by decide +kernel
theorem dL_law_564 : decode cL_law 564 = .ok (.iadd, 1) := by decide +kernel
theorem dL_law_565 : decode cL_law 565 = .ok (.iaload, 1) := by decide +kernel
theorem dL_law_566 : decode cL_law 566 = .ok (.aload_n 0, 1) := by decide +kernel
theorem dL_law_567 : decode cL_law 567 = .ok (.iload_n 3, 1) := by decide +kernel
theorem dL_law_568 : decode cL_law 568 = .ok (.iconst 3, 1) := by decide +kernel
theorem dL_law_569 : decode cL_law 569 = .ok (.iadd, 1) := by decide +kernel
theorem dL_law_570 : decode cL_law 570 = .ok (.iaload, 1) := by decide +kernel
theorem dL_law_571 : decode cL_law 571 = .ok (.invokevirtual 51, 3) := by decide +kernel
theorem dL_law_574 : decode cL_law 574 = .ok (.aload_n 2, 1) := by decide +kernel
theorem dL_law_575 : decode cL_law 575 = .ok (.aload_n 0, 1) := by decide +kernel
theorem dL_law_576 : decode cL_law 576 = .ok (.iload_n 3, 1) := by decide +kernel
theorem dL_law_577 : decode cL_law 577 = .ok (.iconst 1, 1) := by decide +kernel
theorem dL_law_578 : decode cL_law 578 = .ok (.iadd, 1) := by decide +kernel
theorem dL_law_579 : decode cL_law 579 = .ok (.iaload, 1) := by decide +kernel
theorem dL_law_580 : decode cL_law 580 = .ok (.aload_n 0, 1) := by decide +kernel
theorem dL_law_581 : decode cL_law 581 = .ok (.iload_n 3, 1) := by decide +kernel
theorem dL_law_582 : decode cL_law 582 = .ok (.iconst 2, 1) := by decide +kernel
theorem dL_law_583 : decode cL_law 583 = .ok (.iadd, 1) := by decide +kernel
theorem dL_law_584 : decode cL_law 584 = .ok (.iaload, 1) := by decide +kernel
theorem dL_law_585 : decode cL_law 585 = .ok (.aload_n 0, 1) := by decide +kernel
theorem dL_law_586 : decode cL_law 586 = .ok (.iload_n 3, 1) := by decide +kernel
theorem dL_law_587 : decode cL_law 587 = .ok (.iconst 3, 1) := by decide +kernel
theorem dL_law_588 : decode cL_law 588 = .ok (.iadd, 1) := by decide +kernel
theorem dL_law_589 : decode cL_law 589 = .ok (.iaload, 1) := by decide +kernel
theorem dL_law_590 : decode cL_law 590 = .ok (.invokevirtual 55, 3) := by decide +kernel
theorem dL_law_593 : decode cL_law 593 = .ok (.lcmp, 1) := by decide +kernel
theorem dL_law_594 : decode cL_law 594 = .ok (.ifCond .eq 1518, 3) := by decide +kernel
theorem dL_law_597 : decode cL_law 597 = .ok (.iconst 0, 1) := by decide +kernel
theorem dL_law_598 : decode cL_law 598 = .ok (.ireturn, 1) := by decide +kernel
theorem dL_law_599 : decode cL_law 599 = .ok (.aload_n 1, 1) := by decide +kernel
theorem dL_law_600 : decode cL_law 600 = .ok (.aload_n 0, 1) := by decide +kernel
theorem dL_law_601 : decode cL_law 601 = .ok (.iload_n 3, 1) := by decide +kernel
theorem dL_law_602 : decode cL_law 602 = .ok (.iconst 1, 1) := by decide +kernel
theorem dL_law_603 : decode cL_law 603 = .ok (.iadd, 1) := by decide +kernel
theorem dL_law_604 : decode cL_law 604 = .ok (.iaload, 1) := by decide +kernel
theorem dL_law_605 : decode cL_law 605 = .ok (.aload_n 0, 1) := by decide +kernel
theorem dL_law_606 : decode cL_law 606 = .ok (.iload_n 3, 1) := by decide +kernel
theorem dL_law_607 : decode cL_law 607 = .ok (.iconst 2, 1) := by decide +kernel
theorem dL_law_608 : decode cL_law 608 = .ok (.iadd, 1) := by decide +kernel
theorem dL_law_609 : decode cL_law 609 = .ok (.iaload, 1) := by decide +kernel
theorem dL_law_610 : decode cL_law 610 = .ok (.aload_n 0, 1) := by decide +kernel
theorem dL_law_611 : decode cL_law 611 = .ok (.iload_n 3, 1) := by decide +kernel
theorem dL_law_612 : decode cL_law 612 = .ok (.iconst 3, 1) := by decide +kernel
theorem dL_law_613 : decode cL_law 613 = .ok (.iadd, 1) := by decide +kernel
theorem dL_law_614 : decode cL_law 614 = .ok (.iaload, 1) := by decide +kernel
theorem dL_law_615 : decode cL_law 615 = .ok (.invokevirtual 56, 3) := by decide +kernel
theorem dL_law_618 : decode cL_law 618 = .ok (.aload_n 2, 1) := by decide +kernel
theorem dL_law_619 : decode cL_law 619 = .ok (.aload_n 0, 1) := by decide +kernel
theorem dL_law_620 : decode cL_law 620 = .ok (.iload_n 3, 1) := by decide +kernel
theorem dL_law_621 : decode cL_law 621 = .ok (.iconst 1, 1) := by decide +kernel
theorem dL_law_622 : decode cL_law 622 = .ok (.iadd, 1) := by decide +kernel
theorem dL_law_623 : decode cL_law 623 = .ok (.iaload, 1) := by decide +kernel
theorem dL_law_624 : decode cL_law 624 = .ok (.aload_n 0, 1) := by decide +kernel
theorem dL_law_625 : decode cL_law 625 = .ok (.iload_n 3, 1) := by decide +kernel
theorem dL_law_626 : decode cL_law 626 = .ok (.iconst 2, 1) := by decide +kernel
theorem dL_law_627 : decode cL_law 627 = .ok (.iadd, 1) := by decide +kernel
theorem dL_law_628 : decode cL_law 628 = .ok (.iaload, 1) := by decide +kernel
theorem dL_law_629 : decode cL_law 629 = .ok (.aload_n 0, 1) := by decide +kernel
theorem dL_law_630 : decode cL_law 630 = .ok (.iload_n 3, 1) := by decide +kernel
theorem dL_law_631 : decode cL_law 631 = .ok (.iconst 3, 1) := by decide +kernel
theorem dL_law_632 : decode cL_law 632 = .ok (.iadd, 1) := by decide +kernel
theorem dL_law_633 : decode cL_law 633 = .ok (.iaload, 1) := by decide +kernel
theorem dL_law_634 : decode cL_law 634 = .ok (.invokevirtual 59, 3) := by decide +kernel
theorem dL_law_637 : decode cL_law 637 = .ok (.lcmp, 1) := by decide +kernel
theorem dL_law_638 : decode cL_law 638 = .ok (.ifCond .eq 1474, 3) := by decide +kernel
theorem dL_law_641 : decode cL_law 641 = .ok (.iconst 0, 1) := by decide +kernel
theorem dL_law_642 : decode cL_law 642 = .ok (.ireturn, 1) := by decide +kernel
theorem dL_law_643 : decode cL_law 643 = .ok (.aload_n 1, 1) := by decide +kernel
theorem dL_law_644 : decode cL_law 644 = .ok (.aload_n 0, 1) := by decide +kernel
theorem dL_law_645 : decode cL_law 645 = .ok (.iload_n 3, 1) := by decide +kernel
theorem dL_law_646 : decode cL_law 646 = .ok (.iconst 1, 1) := by decide +kernel
theorem dL_law_647 : decode cL_law 647 = .ok (.iadd, 1) := by decide +kernel
theorem dL_law_648 : decode cL_law 648 = .ok (.iaload, 1) := by decide +kernel
theorem dL_law_649 : decode cL_law 649 = .ok (.aload_n 0, 1) := by decide +kernel
theorem dL_law_650 : decode cL_law 650 = .ok (.iload_n 3, 1) := by decide +kernel
theorem dL_law_651 : decode cL_law 651 = .ok (.iconst 2, 1) := by decide +kernel
theorem dL_law_652 : decode cL_law 652 = .ok (.iadd, 1) := by decide +kernel
theorem dL_law_653 : decode cL_law 653 = .ok (.iaload, 1) := by decide +kernel
theorem dL_law_654 : decode cL_law 654 = .ok (.aload_n 0, 1) := by decide +kernel
theorem dL_law_655 : decode cL_law 655 = .ok (.iload_n 3, 1) := by decide +kernel
theorem dL_law_656 : decode cL_law 656 = .ok (.iconst 3, 1) := by decide +kernel
theorem dL_law_657 : decode cL_law 657 = .ok (.iadd, 1) := by decide +kernel
theorem dL_law_658 : decode cL_law 658 = .ok (.iaload, 1) := by decide +kernel
theorem dL_law_659 : decode cL_law 659 = .ok (.invokevirtual 60, 3) := by decide +kernel
theorem dL_law_662 : decode cL_law 662 = .ok (.aload_n 2, 1) := by decide +kernel
theorem dL_law_663 : decode cL_law 663 = .ok (.aload_n 0, 1) := by decide +kernel
theorem dL_law_664 : decode cL_law 664 = .ok (.iload_n 3, 1) := by decide +kernel
theorem dL_law_665 : decode cL_law 665 = .ok (.iconst 1, 1) := by decide +kernel
theorem dL_law_666 : decode cL_law 666 = .ok (.iadd, 1) := by decide +kernel
theorem dL_law_667 : decode cL_law 667 = .ok (.iaload, 1) := by decide +kernel
theorem dL_law_668 : decode cL_law 668 = .ok (.aload_n 0, 1) := by decide +kernel
theorem dL_law_669 : decode cL_law 669 = .ok (.iload_n 3, 1) := by decide +kernel
theorem dL_law_670 : decode cL_law 670 = .ok (.iconst 2, 1) := by decide +kernel
theorem dL_law_671 : decode cL_law 671 = .ok (.iadd, 1) := by decide +kernel
theorem dL_law_672 : decode cL_law 672 = .ok (.iaload, 1) := by decide +kernel
theorem dL_law_673 : decode cL_law 673 = .ok (.aload_n 0, 1) := by decide +kernel
theorem dL_law_674 : decode cL_law 674 = .ok (.iload_n 3, 1) := by decide +kernel
theorem dL_law_675 : decode cL_law 675 = .ok (.iconst 3, 1) := by decide +kernel
theorem dL_law_676 : decode cL_law 676 = .ok (.iadd, 1) := by decide +kernel
theorem dL_law_677 : decode cL_law 677 = .ok (.iaload, 1) := by decide +kernel
theorem dL_law_678 : decode cL_law 678 = .ok (.invokevirtual 63, 3) := by decide +kernel
theorem dL_law_681 : decode cL_law 681 = .ok (.lcmp, 1) := by decide +kernel
theorem dL_law_682 : decode cL_law 682 = .ok (.ifCond .eq 1430, 3) := by decide +kernel
theorem dL_law_685 : decode cL_law 685 = .ok (.iconst 0, 1) := by decide +kernel
theorem dL_law_686 : decode cL_law 686 = .ok (.ireturn, 1) := by decide +kernel
theorem dL_law_687 : decode cL_law 687 = .ok (.aload_n 1, 1) := by decide +kernel
theorem dL_law_688 : decode cL_law 688 = .ok (.aload_n 0, 1) := by decide +kernel
theorem dL_law_689 : decode cL_law 689 = .ok (.iload_n 3, 1) := by decide +kernel
theorem dL_law_690 : decode cL_law 690 = .ok (.iconst 1, 1) := by decide +kernel
theorem dL_law_691 : decode cL_law 691 = .ok (.iadd, 1) := by decide +kernel
theorem dL_law_692 : decode cL_law 692 = .ok (.iaload, 1) := by decide +kernel
theorem dL_law_693 : decode cL_law 693 = .ok (.invokevirtual 64, 3) := by decide +kernel
theorem dL_law_696 : decode cL_law 696 = .ok (.aload_n 2, 1) := by decide +kernel
theorem dL_law_697 : decode cL_law 697 = .ok (.aload_n 0, 1) := by decide +kernel
theorem dL_law_698 : decode cL_law 698 = .ok (.iload_n 3, 1) := by decide +kernel
theorem dL_law_699 : decode cL_law 699 = .ok (.iconst 1, 1) := by decide +kernel
theorem dL_law_700 : decode cL_law 700 = .ok (.iadd, 1) := by decide +kernel
theorem dL_law_701 : decode cL_law 701 = .ok (.iaload, 1) := by decide +kernel
theorem dL_law_702 : decode cL_law 702 = .ok (.invokevirtual 67, 3) := by decide +kernel
theorem dL_law_705 : decode cL_law 705 = .ok (.lcmp, 1) := by decide +kernel
theorem dL_law_706 : decode cL_law 706 = .ok (.ifCond .eq 1406, 3) := by decide +kernel
theorem dL_law_709 : decode cL_law 709 = .ok (.iconst 0, 1) := by decide +kernel
theorem dL_law_710 : decode cL_law 710 = .ok (.ireturn, 1) := by decide +kernel
theorem dL_law_711 : decode cL_law 711 = .ok (.aload_n 1, 1) := by decide +kernel
theorem dL_law_712 : decode cL_law 712 = .ok (.aload_n 0, 1) := by decide +kernel
theorem dL_law_713 : decode cL_law 713 = .ok (.iload_n 3, 1) := by decide +kernel
theorem dL_law_714 : decode cL_law 714 = .ok (.iconst 1, 1) := by decide +kernel
theorem dL_law_715 : decode cL_law 715 = .ok (.iadd, 1) := by decide +kernel
theorem dL_law_716 : decode cL_law 716 = .ok (.iaload, 1) := by decide +kernel
theorem dL_law_717 : decode cL_law 717 = .ok (.aload_n 0, 1) := by decide +kernel
theorem dL_law_718 : decode cL_law 718 = .ok (.iload_n 3, 1) := by decide +kernel
theorem dL_law_719 : decode cL_law 719 = .ok (.iconst 2, 1) := by decide +kernel
theorem dL_law_720 : decode cL_law 720 = .ok (.iadd, 1) := by decide +kernel
theorem dL_law_721 : decode cL_law 721 = .ok (.iaload, 1) := by decide +kernel
theorem dL_law_722 : decode cL_law 722 = .ok (.invokevirtual 68, 3) := by decide +kernel
theorem dL_law_725 : decode cL_law 725 = .ok (.aload_n 2, 1) := by decide +kernel
theorem dL_law_726 : decode cL_law 726 = .ok (.aload_n 0, 1) := by decide +kernel
theorem dL_law_727 : decode cL_law 727 = .ok (.iload_n 3, 1) := by decide +kernel
theorem dL_law_728 : decode cL_law 728 = .ok (.iconst 1, 1) := by decide +kernel
theorem dL_law_729 : decode cL_law 729 = .ok (.iadd, 1) := by decide +kernel
theorem dL_law_730 : decode cL_law 730 = .ok (.iaload, 1) := by decide +kernel
theorem dL_law_731 : decode cL_law 731 = .ok (.aload_n 0, 1) := by decide +kernel
theorem dL_law_732 : decode cL_law 732 = .ok (.iload_n 3, 1) := by decide +kernel
theorem dL_law_733 : decode cL_law 733 = .ok (.iconst 2, 1) := by decide +kernel
theorem dL_law_734 : decode cL_law 734 = .ok (.iadd, 1) := by decide +kernel
theorem dL_law_735 : decode cL_law 735 = .ok (.iaload, 1) := by decide +kernel
theorem dL_law_736 : decode cL_law 736 = .ok (.invokevirtual 71, 3) := by decide +kernel
theorem dL_law_739 : decode cL_law 739 = .ok (.lcmp, 1) := by decide +kernel
theorem dL_law_740 : decode cL_law 740 = .ok (.ifCond .eq 1372, 3) := by decide +kernel
theorem dL_law_743 : decode cL_law 743 = .ok (.iconst 0, 1) := by decide +kernel
theorem dL_law_744 : decode cL_law 744 = .ok (.ireturn, 1) := by decide +kernel
theorem dL_law_745 : decode cL_law 745 = .ok (.aload_n 1, 1) := by decide +kernel
theorem dL_law_746 : decode cL_law 746 = .ok (.aload_n 0, 1) := by decide +kernel
theorem dL_law_747 : decode cL_law 747 = .ok (.iload_n 3, 1) := by decide +kernel
theorem dL_law_748 : decode cL_law 748 = .ok (.iconst 1, 1) := by decide +kernel
theorem dL_law_749 : decode cL_law 749 = .ok (.iadd, 1) := by decide +kernel
theorem dL_law_750 : decode cL_law 750 = .ok (.iaload, 1) := by decide +kernel
theorem dL_law_751 : decode cL_law 751 = .ok (.aload_n 0, 1) := by decide +kernel
theorem dL_law_752 : decode cL_law 752 = .ok (.iload_n 3, 1) := by decide +kernel
theorem dL_law_753 : decode cL_law 753 = .ok (.iconst 2, 1) := by decide +kernel
theorem dL_law_754 : decode cL_law 754 = .ok (.iadd, 1) := by decide +kernel
theorem dL_law_755 : decode cL_law 755 = .ok (.iaload, 1) := by decide +kernel
theorem dL_law_756 : decode cL_law 756 = .ok (.invokevirtual 72, 3) := by decide +kernel
theorem dL_law_759 : decode cL_law 759 = .ok (.aload_n 2, 1) := by decide +kernel
theorem dL_law_760 : decode cL_law 760 = .ok (.aload_n 0, 1) := by decide +kernel
theorem dL_law_761 : decode cL_law 761 = .ok (.iload_n 3, 1) := by decide +kernel
theorem dL_law_762 : decode cL_law 762 = .ok (.iconst 1, 1) := by decide +kernel
theorem dL_law_763 : decode cL_law 763 = .ok (.iadd, 1) := by decide +kernel
theorem dL_law_764 : decode cL_law 764 = .ok (.iaload, 1) := by decide +kernel
theorem dL_law_765 : decode cL_law 765 = .ok (.aload_n 0, 1) := by decide +kernel
theorem dL_law_766 : decode cL_law 766 = .ok (.iload_n 3, 1) := by decide +kernel
theorem dL_law_767 : decode cL_law 767 = .ok (.iconst 2, 1) := by decide +kernel
theorem dL_law_768 : decode cL_law 768 = .ok (.iadd, 1) := by decide +kernel
theorem dL_law_769 : decode cL_law 769 = .ok (.iaload, 1) := by decide +kernel
theorem dL_law_770 : decode cL_law 770 = .ok (.invokevirtual 75, 3) := by decide +kernel
theorem dL_law_773 : decode cL_law 773 = .ok (.lcmp, 1) := by decide +kernel
theorem dL_law_774 : decode cL_law 774 = .ok (.ifCond .eq 1338, 3) := by decide +kernel
theorem dL_law_777 : decode cL_law 777 = .ok (.iconst 0, 1) := by decide +kernel
theorem dL_law_778 : decode cL_law 778 = .ok (.ireturn, 1) := by decide +kernel
theorem dL_law_779 : decode cL_law 779 = .ok (.aload_n 1, 1) := by decide +kernel
theorem dL_law_780 : decode cL_law 780 = .ok (.invokevirtual 76, 3) := by decide +kernel
theorem dL_law_783 : decode cL_law 783 = .ok (.aload_n 2, 1) := by decide +kernel
theorem dL_law_784 : decode cL_law 784 = .ok (.invokevirtual 80, 3) := by decide +kernel
theorem dL_law_787 : decode cL_law 787 = .ok (.lcmp, 1) := by decide +kernel
theorem dL_law_788 : decode cL_law 788 = .ok (.ifCond .eq 1324, 3) := by decide +kernel
theorem dL_law_791 : decode cL_law 791 = .ok (.iconst 0, 1) := by decide +kernel
theorem dL_law_792 : decode cL_law 792 = .ok (.ireturn, 1) := by decide +kernel
theorem dL_law_793 : decode cL_law 793 = .ok (.aload_n 1, 1) := by decide +kernel
theorem dL_law_794 : decode cL_law 794 = .ok (.aload_n 0, 1) := by decide +kernel
theorem dL_law_795 : decode cL_law 795 = .ok (.iload_n 3, 1) := by decide +kernel
theorem dL_law_796 : decode cL_law 796 = .ok (.iconst 1, 1) := by decide +kernel
theorem dL_law_797 : decode cL_law 797 = .ok (.iadd, 1) := by decide +kernel
theorem dL_law_798 : decode cL_law 798 = .ok (.iaload, 1) := by decide +kernel
theorem dL_law_799 : decode cL_law 799 = .ok (.invokevirtual 81, 3) := by decide +kernel
theorem dL_law_802 : decode cL_law 802 = .ok (.aload_n 2, 1) := by decide +kernel
theorem dL_law_803 : decode cL_law 803 = .ok (.aload_n 0, 1) := by decide +kernel
theorem dL_law_804 : decode cL_law 804 = .ok (.iload_n 3, 1) := by decide +kernel
theorem dL_law_805 : decode cL_law 805 = .ok (.iconst 1, 1) := by decide +kernel
theorem dL_law_806 : decode cL_law 806 = .ok (.iadd, 1) := by decide +kernel
theorem dL_law_807 : decode cL_law 807 = .ok (.iaload, 1) := by decide +kernel
theorem dL_law_808 : decode cL_law 808 = .ok (.invokevirtual 84, 3) := by decide +kernel
theorem dL_law_811 : decode cL_law 811 = .ok (.if_icmp .eq 1301, 3) := by decide +kernel
theorem dL_law_814 : decode cL_law 814 = .ok (.iconst 0, 1) := by decide +kernel
theorem dL_law_815 : decode cL_law 815 = .ok (.ireturn, 1) := by decide +kernel
theorem dL_law_816 : decode cL_law 816 = .ok (.aload_n 1, 1) := by decide +kernel
theorem dL_law_817 : decode cL_law 817 = .ok (.invokevirtual 85, 3) := by decide +kernel
theorem dL_law_820 : decode cL_law 820 = .ok (.aload_n 2, 1) := by decide +kernel
theorem dL_law_821 : decode cL_law 821 = .ok (.invokevirtual 89, 3) := by decide +kernel
theorem dL_law_824 : decode cL_law 824 = .ok (.if_icmp .eq 1288, 3) := by decide +kernel
theorem dL_law_827 : decode cL_law 827 = .ok (.iconst 0, 1) := by decide +kernel
theorem dL_law_828 : decode cL_law 828 = .ok (.ireturn, 1) := by decide +kernel
theorem dL_law_829 : decode cL_law 829 = .ok (.aload_n 1, 1) := by decide +kernel
theorem dL_law_830 : decode cL_law 830 = .ok (.aload_n 0, 1) := by decide +kernel
theorem dL_law_831 : decode cL_law 831 = .ok (.iload_n 3, 1) := by decide +kernel
theorem dL_law_832 : decode cL_law 832 = .ok (.iconst 1, 1) := by decide +kernel
theorem dL_law_833 : decode cL_law 833 = .ok (.iadd, 1) := by decide +kernel
theorem dL_law_834 : decode cL_law 834 = .ok (.iaload, 1) := by decide +kernel
theorem dL_law_835 : decode cL_law 835 = .ok (.invokevirtual 90, 3) := by decide +kernel
theorem dL_law_838 : decode cL_law 838 = .ok (.aload_n 2, 1) := by decide +kernel
theorem dL_law_839 : decode cL_law 839 = .ok (.aload_n 0, 1) := by decide +kernel
theorem dL_law_840 : decode cL_law 840 = .ok (.iload_n 3, 1) := by decide +kernel
theorem dL_law_841 : decode cL_law 841 = .ok (.iconst 1, 1) := by decide +kernel
theorem dL_law_842 : decode cL_law 842 = .ok (.iadd, 1) := by decide +kernel
theorem dL_law_843 : decode cL_law 843 = .ok (.iaload, 1) := by decide +kernel
theorem dL_law_844 : decode cL_law 844 = .ok (.invokevirtual 93, 3) := by decide +kernel
theorem dL_law_847 : decode cL_law 847 = .ok (.if_icmp .eq 1265, 3) := by decide +kernel
theorem dL_law_850 : decode cL_law 850 = .ok (.iconst 0, 1) := by decide +kernel
theorem dL_law_851 : decode cL_law 851 = .ok (.ireturn, 1) := by decide +kernel
theorem dL_law_852 : decode cL_law 852 = .ok (.aload_n 1, 1) := by decide +kernel
theorem dL_law_853 : decode cL_law 853 = .ok (.aload_n 0, 1) := by decide +kernel
theorem dL_law_854 : decode cL_law 854 = .ok (.iload_n 3, 1) := by decide +kernel
theorem dL_law_855 : decode cL_law 855 = .ok (.iconst 1, 1) := by decide +kernel
theorem dL_law_856 : decode cL_law 856 = .ok (.iadd, 1) := by decide +kernel
theorem dL_law_857 : decode cL_law 857 = .ok (.iaload, 1) := by decide +kernel
theorem dL_law_858 : decode cL_law 858 = .ok (.ifCond .eq 7, 3) := by decide +kernel
theorem dL_law_861 : decode cL_law 861 = .ok (.iconst 1, 1) := by decide +kernel
theorem dL_law_862 : decode cL_law 862 = .ok (.goto 4, 3) := by decide +kernel
theorem dL_law_865 : decode cL_law 865 = .ok (.iconst 0, 1) := by decide +kernel
theorem dL_law_866 : decode cL_law 866 = .ok (.aload_n 0, 1) := by decide +kernel
theorem dL_law_867 : decode cL_law 867 = .ok (.iload_n 3, 1) := by decide +kernel
theorem dL_law_868 : decode cL_law 868 = .ok (.iconst 2, 1) := by decide +kernel
theorem dL_law_869 : decode cL_law 869 = .ok (.iadd, 1) := by decide +kernel
theorem dL_law_870 : decode cL_law 870 = .ok (.iaload, 1) := by decide +kernel
theorem dL_law_871 : decode cL_law 871 = .ok (.aload_n 0, 1) := by decide +kernel
theorem dL_law_872 : decode cL_law 872 = .ok (.iload_n 3, 1) := by decide +kernel
theorem dL_law_873 : decode cL_law 873 = .ok (.iconst 3, 1) := by decide +kernel
theorem dL_law_874 : decode cL_law 874 = .ok (.iadd, 1) := by decide +kernel
theorem dL_law_875 : decode cL_law 875 = .ok (.iaload, 1) := by decide +kernel
theorem dL_law_876 : decode cL_law 876 = .ok (.invokevirtual 94, 3) := by decide +kernel
theorem dL_law_879 : decode cL_law 879 = .ok (.aload_n 2, 1) := by decide +kernel
theorem dL_law_880 : decode cL_law 880 = .ok (.aload_n 0, 1) := by decide +kernel
theorem dL_law_881 : decode cL_law 881 = .ok (.iload_n 3, 1) := by decide +kernel
theorem dL_law_882 : decode cL_law 882 = .ok (.iconst 1, 1) := by decide +kernel
theorem dL_law_883 : decode cL_law 883 = .ok (.iadd, 1) := by decide +kernel
theorem dL_law_884 : decode cL_law 884 = .ok (.iaload, 1) := by decide +kernel
theorem dL_law_885 : decode cL_law 885 = .ok (.ifCond .eq 7, 3) := by decide +kernel
theorem dL_law_888 : decode cL_law 888 = .ok (.iconst 1, 1) := by decide +kernel
theorem dL_law_889 : decode cL_law 889 = .ok (.goto 4, 3) := by decide +kernel
theorem dL_law_892 : decode cL_law 892 = .ok (.iconst 0, 1) := by decide +kernel
theorem dL_law_893 : decode cL_law 893 = .ok (.aload_n 0, 1) := by decide +kernel
theorem dL_law_894 : decode cL_law 894 = .ok (.iload_n 3, 1) := by decide +kernel
theorem dL_law_895 : decode cL_law 895 = .ok (.iconst 2, 1) := by decide +kernel
theorem dL_law_896 : decode cL_law 896 = .ok (.iadd, 1) := by decide +kernel
theorem dL_law_897 : decode cL_law 897 = .ok (.iaload, 1) := by decide +kernel
theorem dL_law_898 : decode cL_law 898 = .ok (.aload_n 0, 1) := by decide +kernel
theorem dL_law_899 : decode cL_law 899 = .ok (.iload_n 3, 1) := by decide +kernel
theorem dL_law_900 : decode cL_law 900 = .ok (.iconst 3, 1) := by decide +kernel
theorem dL_law_901 : decode cL_law 901 = .ok (.iadd, 1) := by decide +kernel
theorem dL_law_902 : decode cL_law 902 = .ok (.iaload, 1) := by decide +kernel
theorem dL_law_903 : decode cL_law 903 = .ok (.invokevirtual 98, 3) := by decide +kernel
theorem dL_law_906 : decode cL_law 906 = .ok (.if_icmp .eq 1206, 3) := by decide +kernel
theorem dL_law_909 : decode cL_law 909 = .ok (.iconst 0, 1) := by decide +kernel
theorem dL_law_910 : decode cL_law 910 = .ok (.ireturn, 1) := by decide +kernel
theorem dL_law_911 : decode cL_law 911 = .ok (.aload_n 1, 1) := by decide +kernel
theorem dL_law_912 : decode cL_law 912 = .ok (.aload_n 0, 1) := by decide +kernel
theorem dL_law_913 : decode cL_law 913 = .ok (.iload_n 3, 1) := by decide +kernel
theorem dL_law_914 : decode cL_law 914 = .ok (.iconst 1, 1) := by decide +kernel
theorem dL_law_915 : decode cL_law 915 = .ok (.iadd, 1) := by decide +kernel
theorem dL_law_916 : decode cL_law 916 = .ok (.iaload, 1) := by decide +kernel
theorem dL_law_917 : decode cL_law 917 = .ok (.aload_n 0, 1) := by decide +kernel
theorem dL_law_918 : decode cL_law 918 = .ok (.iload_n 3, 1) := by decide +kernel
theorem dL_law_919 : decode cL_law 919 = .ok (.iconst 2, 1) := by decide +kernel
theorem dL_law_920 : decode cL_law 920 = .ok (.iadd, 1) := by decide +kernel
theorem dL_law_921 : decode cL_law 921 = .ok (.iaload, 1) := by decide +kernel
theorem dL_law_922 : decode cL_law 922 = .ok (.invokevirtual 99, 3) := by decide +kernel
theorem dL_law_925 : decode cL_law 925 = .ok (.aload_n 2, 1) := by decide +kernel
theorem dL_law_926 : decode cL_law 926 = .ok (.aload_n 0, 1) := by decide +kernel
theorem dL_law_927 : decode cL_law 927 = .ok (.iload_n 3, 1) := by decide +kernel
theorem dL_law_928 : decode cL_law 928 = .ok (.iconst 1, 1) := by decide +kernel
theorem dL_law_929 : decode cL_law 929 = .ok (.iadd, 1) := by decide +kernel
theorem dL_law_930 : decode cL_law 930 = .ok (.iaload, 1) := by decide +kernel
theorem dL_law_931 : decode cL_law 931 = .ok (.aload_n 0, 1) := by decide +kernel
theorem dL_law_932 : decode cL_law 932 = .ok (.iload_n 3, 1) := by decide +kernel
theorem dL_law_933 : decode cL_law 933 = .ok (.iconst 2, 1) := by decide +kernel
theorem dL_law_934 : decode cL_law 934 = .ok (.iadd, 1) := by decide +kernel
theorem dL_law_935 : decode cL_law 935 = .ok (.iaload, 1) := by decide +kernel
theorem dL_law_936 : decode cL_law 936 = .ok (.invokevirtual 103, 3) := by decide +kernel
theorem dL_law_939 : decode cL_law 939 = .ok (.if_icmp .eq 1173, 3) := by decide +kernel
theorem dL_law_942 : decode cL_law 942 = .ok (.iconst 0, 1) := by decide +kernel
theorem dL_law_943 : decode cL_law 943 = .ok (.ireturn, 1) := by decide +kernel
theorem dL_law_944 : decode cL_law 944 = .ok (.aload_n 1, 1) := by decide +kernel
theorem dL_law_945 : decode cL_law 945 = .ok (.aload_n 0, 1) := by decide +kernel
theorem dL_law_946 : decode cL_law 946 = .ok (.iload_n 3, 1) := by decide +kernel
theorem dL_law_947 : decode cL_law 947 = .ok (.iconst 1, 1) := by decide +kernel
theorem dL_law_948 : decode cL_law 948 = .ok (.iadd, 1) := by decide +kernel
theorem dL_law_949 : decode cL_law 949 = .ok (.iaload, 1) := by decide +kernel
theorem dL_law_950 : decode cL_law 950 = .ok (.aload_n 0, 1) := by decide +kernel
theorem dL_law_951 : decode cL_law 951 = .ok (.iload_n 3, 1) := by decide +kernel
theorem dL_law_952 : decode cL_law 952 = .ok (.iconst 2, 1) := by decide +kernel
theorem dL_law_953 : decode cL_law 953 = .ok (.iadd, 1) := by decide +kernel
theorem dL_law_954 : decode cL_law 954 = .ok (.iaload, 1) := by decide +kernel
theorem dL_law_955 : decode cL_law 955 = .ok (.invokevirtual 104, 3) := by decide +kernel
theorem dL_law_958 : decode cL_law 958 = .ok (.aload_n 2, 1) := by decide +kernel
theorem dL_law_959 : decode cL_law 959 = .ok (.aload_n 0, 1) := by decide +kernel
theorem dL_law_960 : decode cL_law 960 = .ok (.iload_n 3, 1) := by decide +kernel
theorem dL_law_961 : decode cL_law 961 = .ok (.iconst 1, 1) := by decide +kernel
theorem dL_law_962 : decode cL_law 962 = .ok (.iadd, 1) := by decide +kernel
theorem dL_law_963 : decode cL_law 963 = .ok (.iaload, 1) := by decide +kernel
theorem dL_law_964 : decode cL_law 964 = .ok (.aload_n 0, 1) := by decide +kernel
theorem dL_law_965 : decode cL_law 965 = .ok (.iload_n 3, 1) := by decide +kernel
theorem dL_law_966 : decode cL_law 966 = .ok (.iconst 2, 1) := by decide +kernel
theorem dL_law_967 : decode cL_law 967 = .ok (.iadd, 1) := by decide +kernel
theorem dL_law_968 : decode cL_law 968 = .ok (.iaload, 1) := by decide +kernel
theorem dL_law_969 : decode cL_law 969 = .ok (.invokevirtual 108, 3) := by decide +kernel
theorem dL_law_972 : decode cL_law 972 = .ok (.if_icmp .eq 1140, 3) := by decide +kernel
theorem dL_law_975 : decode cL_law 975 = .ok (.iconst 0, 1) := by decide +kernel
theorem dL_law_976 : decode cL_law 976 = .ok (.ireturn, 1) := by decide +kernel
theorem dL_law_977 : decode cL_law 977 = .ok (.aload_n 1, 1) := by decide +kernel
theorem dL_law_978 : decode cL_law 978 = .ok (.aload_n 0, 1) := by decide +kernel
theorem dL_law_979 : decode cL_law 979 = .ok (.iload_n 3, 1) := by decide +kernel
theorem dL_law_980 : decode cL_law 980 = .ok (.iconst 1, 1) := by decide +kernel
theorem dL_law_981 : decode cL_law 981 = .ok (.iadd, 1) := by decide +kernel
theorem dL_law_982 : decode cL_law 982 = .ok (.iaload, 1) := by decide +kernel
theorem dL_law_983 : decode cL_law 983 = .ok (.aload_n 0, 1) := by decide +kernel
theorem dL_law_984 : decode cL_law 984 = .ok (.iload_n 3, 1) := by decide +kernel
theorem dL_law_985 : decode cL_law 985 = .ok (.iconst 2, 1) := by decide +kernel
theorem dL_law_986 : decode cL_law 986 = .ok (.iadd, 1) := by decide +kernel
theorem dL_law_987 : decode cL_law 987 = .ok (.iaload, 1) := by decide +kernel
theorem dL_law_988 : decode cL_law 988 = .ok (.invokevirtual 109, 3) := by decide +kernel
theorem dL_law_991 : decode cL_law 991 = .ok (.aload_n 2, 1) := by decide +kernel
theorem dL_law_992 : decode cL_law 992 = .ok (.aload_n 0, 1) := by decide +kernel
theorem dL_law_993 : decode cL_law 993 = .ok (.iload_n 3, 1) := by decide +kernel
theorem dL_law_994 : decode cL_law 994 = .ok (.iconst 1, 1) := by decide +kernel
theorem dL_law_995 : decode cL_law 995 = .ok (.iadd, 1) := by decide +kernel
theorem dL_law_996 : decode cL_law 996 = .ok (.iaload, 1) := by decide +kernel
theorem dL_law_997 : decode cL_law 997 = .ok (.aload_n 0, 1) := by decide +kernel
theorem dL_law_998 : decode cL_law 998 = .ok (.iload_n 3, 1) := by decide +kernel
theorem dL_law_999 : decode cL_law 999 = .ok (.iconst 2, 1) := by decide +kernel
theorem dL_law_1000 : decode cL_law 1000 = .ok (.iadd, 1) := by decide +kernel
theorem dL_law_1001 : decode cL_law 1001 = .ok (.iaload, 1) := by decide +kernel
theorem dL_law_1002 : decode cL_law 1002 = .ok (.invokevirtual 112, 3) := by decide +kernel
theorem dL_law_1005 : decode cL_law 1005 = .ok (.if_icmp .eq 1107, 3) := by decide +kernel
theorem dL_law_1008 : decode cL_law 1008 = .ok (.iconst 0, 1) := by decide +kernel
theorem dL_law_1009 : decode cL_law 1009 = .ok (.ireturn, 1) := by decide +kernel
theorem dL_law_1010 : decode cL_law 1010 = .ok (.aload_n 1, 1) := by decide +kernel
theorem dL_law_1011 : decode cL_law 1011 = .ok (.aload_n 0, 1) := by decide +kernel
theorem dL_law_1012 : decode cL_law 1012 = .ok (.iload_n 3, 1) := by decide +kernel
theorem dL_law_1013 : decode cL_law 1013 = .ok (.iconst 1, 1) := by decide +kernel
theorem dL_law_1014 : decode cL_law 1014 = .ok (.iadd, 1) := by decide +kernel
theorem dL_law_1015 : decode cL_law 1015 = .ok (.iaload, 1) := by decide +kernel
theorem dL_law_1016 : decode cL_law 1016 = .ok (.aload_n 0, 1) := by decide +kernel
theorem dL_law_1017 : decode cL_law 1017 = .ok (.iload_n 3, 1) := by decide +kernel
theorem dL_law_1018 : decode cL_law 1018 = .ok (.iconst 2, 1) := by decide +kernel
theorem dL_law_1019 : decode cL_law 1019 = .ok (.iadd, 1) := by decide +kernel
theorem dL_law_1020 : decode cL_law 1020 = .ok (.iaload, 1) := by decide +kernel
theorem dL_law_1021 : decode cL_law 1021 = .ok (.ifCond .eq 7, 3) := by decide +kernel
theorem dL_law_1024 : decode cL_law 1024 = .ok (.iconst 1, 1) := by decide +kernel
theorem dL_law_1025 : decode cL_law 1025 = .ok (.goto 4, 3) := by decide +kernel
theorem dL_law_1028 : decode cL_law 1028 = .ok (.iconst 0, 1) := by decide +kernel
theorem dL_law_1029 : decode cL_law 1029 = .ok (.aload_n 0, 1) := by decide +kernel
theorem dL_law_1030 : decode cL_law 1030 = .ok (.iload_n 3, 1) := by decide +kernel
theorem dL_law_1031 : decode cL_law 1031 = .ok (.iconst 3, 1) := by decide +kernel
theorem dL_law_1032 : decode cL_law 1032 = .ok (.iadd, 1) := by decide +kernel
theorem dL_law_1033 : decode cL_law 1033 = .ok (.iaload, 1) := by decide +kernel
theorem dL_law_1034 : decode cL_law 1034 = .ok (.aload_n 0, 1) := by decide +kernel
theorem dL_law_1035 : decode cL_law 1035 = .ok (.iload_n 3, 1) := by decide +kernel
theorem dL_law_1036 : decode cL_law 1036 = .ok (.iconst 4, 1) := by decide +kernel
theorem dL_law_1037 : decode cL_law 1037 = .ok (.iadd, 1) := by decide +kernel
theorem dL_law_1038 : decode cL_law 1038 = .ok (.iaload, 1) := by decide +kernel
theorem dL_law_1039 : decode cL_law 1039 = .ok (.invokevirtual 113, 3) := by decide +kernel
theorem dL_law_1042 : decode cL_law 1042 = .ok (.aload_n 2, 1) := by decide +kernel
theorem dL_law_1043 : decode cL_law 1043 = .ok (.aload_n 0, 1) := by decide +kernel
theorem dL_law_1044 : decode cL_law 1044 = .ok (.iload_n 3, 1) := by decide +kernel
theorem dL_law_1045 : decode cL_law 1045 = .ok (.iconst 1, 1) := by decide +kernel
theorem dL_law_1046 : decode cL_law 1046 = .ok (.iadd, 1) := by decide +kernel
theorem dL_law_1047 : decode cL_law 1047 = .ok (.iaload, 1) := by decide +kernel
theorem dL_law_1048 : decode cL_law 1048 = .ok (.aload_n 0, 1) := by decide +kernel
theorem dL_law_1049 : decode cL_law 1049 = .ok (.iload_n 3, 1) := by decide +kernel
theorem dL_law_1050 : decode cL_law 1050 = .ok (.iconst 2, 1) := by decide +kernel
theorem dL_law_1051 : decode cL_law 1051 = .ok (.iadd, 1) := by decide +kernel
theorem dL_law_1052 : decode cL_law 1052 = .ok (.iaload, 1) := by decide +kernel
theorem dL_law_1053 : decode cL_law 1053 = .ok (.ifCond .eq 7, 3) := by decide +kernel
theorem dL_law_1056 : decode cL_law 1056 = .ok (.iconst 1, 1) := by decide +kernel
theorem dL_law_1057 : decode cL_law 1057 = .ok (.goto 4, 3) := by decide +kernel
theorem dL_law_1060 : decode cL_law 1060 = .ok (.iconst 0, 1) := by decide +kernel
theorem dL_law_1061 : decode cL_law 1061 = .ok (.aload_n 0, 1) := by decide +kernel
theorem dL_law_1062 : decode cL_law 1062 = .ok (.iload_n 3, 1) := by decide +kernel
theorem dL_law_1063 : decode cL_law 1063 = .ok (.iconst 3, 1) := by decide +kernel
theorem dL_law_1064 : decode cL_law 1064 = .ok (.iadd, 1) := by decide +kernel
theorem dL_law_1065 : decode cL_law 1065 = .ok (.iaload, 1) := by decide +kernel
theorem dL_law_1066 : decode cL_law 1066 = .ok (.aload_n 0, 1) := by decide +kernel
theorem dL_law_1067 : decode cL_law 1067 = .ok (.iload_n 3, 1) := by decide +kernel
theorem dL_law_1068 : decode cL_law 1068 = .ok (.iconst 4, 1) := by decide +kernel
theorem dL_law_1069 : decode cL_law 1069 = .ok (.iadd, 1) := by decide +kernel
theorem dL_law_1070 : decode cL_law 1070 = .ok (.iaload, 1) := by decide +kernel
theorem dL_law_1071 : decode cL_law 1071 = .ok (.invokevirtual 117, 3) := by decide +kernel
theorem dL_law_1074 : decode cL_law 1074 = .ok (.if_icmp .eq 1038, 3) := by decide +kernel
theorem dL_law_1077 : decode cL_law 1077 = .ok (.iconst 0, 1) := by decide +kernel
theorem dL_law_1078 : decode cL_law 1078 = .ok (.ireturn, 1) := by decide +kernel
theorem dL_law_1079 : decode cL_law 1079 = .ok (.aload_n 1, 1) := by decide +kernel
theorem dL_law_1080 : decode cL_law 1080 = .ok (.aload_n 0, 1) := by decide +kernel
theorem dL_law_1081 : decode cL_law 1081 = .ok (.iload_n 3, 1) := by decide +kernel
theorem dL_law_1082 : decode cL_law 1082 = .ok (.iconst 1, 1) := by decide +kernel
theorem dL_law_1083 : decode cL_law 1083 = .ok (.iadd, 1) := by decide +kernel
theorem dL_law_1084 : decode cL_law 1084 = .ok (.iaload, 1) := by decide +kernel
theorem dL_law_1085 : decode cL_law 1085 = .ok (.aload_n 0, 1) := by decide +kernel
theorem dL_law_1086 : decode cL_law 1086 = .ok (.iload_n 3, 1) := by decide +kernel
theorem dL_law_1087 : decode cL_law 1087 = .ok (.iconst 2, 1) := by decide +kernel
theorem dL_law_1088 : decode cL_law 1088 = .ok (.iadd, 1) := by decide +kernel
theorem dL_law_1089 : decode cL_law 1089 = .ok (.iaload, 1) := by decide +kernel
theorem dL_law_1090 : decode cL_law 1090 = .ok (.ifCond .eq 7, 3) := by decide +kernel
theorem dL_law_1093 : decode cL_law 1093 = .ok (.iconst 1, 1) := by decide +kernel
theorem dL_law_1094 : decode cL_law 1094 = .ok (.goto 4, 3) := by decide +kernel
theorem dL_law_1097 : decode cL_law 1097 = .ok (.iconst 0, 1) := by decide +kernel
theorem dL_law_1098 : decode cL_law 1098 = .ok (.aload_n 0, 1) := by decide +kernel
theorem dL_law_1099 : decode cL_law 1099 = .ok (.iload_n 3, 1) := by decide +kernel
theorem dL_law_1100 : decode cL_law 1100 = .ok (.iconst 3, 1) := by decide +kernel
theorem dL_law_1101 : decode cL_law 1101 = .ok (.iadd, 1) := by decide +kernel
theorem dL_law_1102 : decode cL_law 1102 = .ok (.iaload, 1) := by decide +kernel
theorem dL_law_1103 : decode cL_law 1103 = .ok (.invokevirtual 118, 3) := by decide +kernel
theorem dL_law_1106 : decode cL_law 1106 = .ok (.aload_n 2, 1) := by decide +kernel
theorem dL_law_1107 : decode cL_law 1107 = .ok (.aload_n 0, 1) := by decide +kernel
theorem dL_law_1108 : decode cL_law 1108 = .ok (.iload_n 3, 1) := by decide +kernel
theorem dL_law_1109 : decode cL_law 1109 = .ok (.iconst 1, 1) := by decide +kernel
theorem dL_law_1110 : decode cL_law 1110 = .ok (.iadd, 1) := by decide +kernel
theorem dL_law_1111 : decode cL_law 1111 = .ok (.iaload, 1) := by decide +kernel
theorem dL_law_1112 : decode cL_law 1112 = .ok (.aload_n 0, 1) := by decide +kernel
theorem dL_law_1113 : decode cL_law 1113 = .ok (.iload_n 3, 1) := by decide +kernel
theorem dL_law_1114 : decode cL_law 1114 = .ok (.iconst 2, 1) := by decide +kernel
theorem dL_law_1115 : decode cL_law 1115 = .ok (.iadd, 1) := by decide +kernel
theorem dL_law_1116 : decode cL_law 1116 = .ok (.iaload, 1) := by decide +kernel
theorem dL_law_1117 : decode cL_law 1117 = .ok (.ifCond .eq 7, 3) := by decide +kernel
theorem dL_law_1120 : decode cL_law 1120 = .ok (.iconst 1, 1) := by decide +kernel
theorem dL_law_1121 : decode cL_law 1121 = .ok (.goto 4, 3) := by decide +kernel
theorem dL_law_1124 : decode cL_law 1124 = .ok (.iconst 0, 1) := by decide +kernel
theorem dL_law_1125 : decode cL_law 1125 = .ok (.aload_n 0, 1) := by decide +kernel
theorem dL_law_1126 : decode cL_law 1126 = .ok (.iload_n 3, 1) := by decide +kernel
theorem dL_law_1127 : decode cL_law 1127 = .ok (.iconst 3, 1) := by decide +kernel
theorem dL_law_1128 : decode cL_law 1128 = .ok (.iadd, 1) := by decide +kernel
theorem dL_law_1129 : decode cL_law 1129 = .ok (.iaload, 1) := by decide +kernel
theorem dL_law_1130 : decode cL_law 1130 = .ok (.invokevirtual 122, 3) := by decide +kernel
theorem dL_law_1133 : decode cL_law 1133 = .ok (.if_icmp .eq 979, 3) := by decide +kernel
theorem dL_law_1136 : decode cL_law 1136 = .ok (.iconst 0, 1) := by decide +kernel
theorem dL_law_1137 : decode cL_law 1137 = .ok (.ireturn, 1) := by decide +kernel
theorem dL_law_1138 : decode cL_law 1138 = .ok (.aload_n 1, 1) := by decide +kernel
theorem dL_law_1139 : decode cL_law 1139 = .ok (.aload_n 0, 1) := by decide +kernel
theorem dL_law_1140 : decode cL_law 1140 = .ok (.iload_n 3, 1) := by decide +kernel
theorem dL_law_1141 : decode cL_law 1141 = .ok (.iconst 1, 1) := by decide +kernel
theorem dL_law_1142 : decode cL_law 1142 = .ok (.iadd, 1) := by decide +kernel
theorem dL_law_1143 : decode cL_law 1143 = .ok (.iaload, 1) := by decide +kernel
theorem dL_law_1144 : decode cL_law 1144 = .ok (.aload_n 0, 1) := by decide +kernel
theorem dL_law_1145 : decode cL_law 1145 = .ok (.iload_n 3, 1) := by decide +kernel
theorem dL_law_1146 : decode cL_law 1146 = .ok (.iconst 2, 1) := by decide +kernel
theorem dL_law_1147 : decode cL_law 1147 = .ok (.iadd, 1) := by decide +kernel
theorem dL_law_1148 : decode cL_law 1148 = .ok (.iaload, 1) := by decide +kernel
theorem dL_law_1149 : decode cL_law 1149 = .ok (.aload_n 0, 1) := by decide +kernel
theorem dL_law_1150 : decode cL_law 1150 = .ok (.iload_n 3, 1) := by decide +kernel
theorem dL_law_1151 : decode cL_law 1151 = .ok (.iconst 3, 1) := by decide +kernel
theorem dL_law_1152 : decode cL_law 1152 = .ok (.iadd, 1) := by decide +kernel
theorem dL_law_1153 : decode cL_law 1153 = .ok (.iaload, 1) := by decide +kernel
theorem dL_law_1154 : decode cL_law 1154 = .ok (.invokevirtual 123, 3) := by decide +kernel
theorem dL_law_1157 : decode cL_law 1157 = .ok (.aload_n 2, 1) := by decide +kernel
theorem dL_law_1158 : decode cL_law 1158 = .ok (.aload_n 0, 1) := by decide +kernel
theorem dL_law_1159 : decode cL_law 1159 = .ok (.iload_n 3, 1) := by decide +kernel
theorem dL_law_1160 : decode cL_law 1160 = .ok (.iconst 1, 1) := by decide +kernel
theorem dL_law_1161 : decode cL_law 1161 = .ok (.iadd, 1) := by decide +kernel
theorem dL_law_1162 : decode cL_law 1162 = .ok (.iaload, 1) := by decide +kernel
theorem dL_law_1163 : decode cL_law 1163 = .ok (.aload_n 0, 1) := by decide +kernel
theorem dL_law_1164 : decode cL_law 1164 = .ok (.iload_n 3, 1) := by decide +kernel
theorem dL_law_1165 : decode cL_law 1165 = .ok (.iconst 2, 1) := by decide +kernel
theorem dL_law_1166 : decode cL_law 1166 = .ok (.iadd, 1) := by decide +kernel
theorem dL_law_1167 : decode cL_law 1167 = .ok (.iaload, 1) := by decide +kernel
theorem dL_law_1168 : decode cL_law 1168 = .ok (.aload_n 0, 1) := by decide +kernel
theorem dL_law_1169 : decode cL_law 1169 = .ok (.iload_n 3, 1) := by decide +kernel
theorem dL_law_1170 : decode cL_law 1170 = .ok (.iconst 3, 1) := by decide +kernel
theorem dL_law_1171 : decode cL_law 1171 = .ok (.iadd, 1) := by decide +kernel
theorem dL_law_1172 : decode cL_law 1172 = .ok (.iaload, 1) := by decide +kernel
theorem dL_law_1173 : decode cL_law 1173 = .ok (.invokevirtual 126, 3) := by decide +kernel
theorem dL_law_1176 : decode cL_law 1176 = .ok (.lcmp, 1) := by decide +kernel
theorem dL_law_1177 : decode cL_law 1177 = .ok (.ifCond .eq 935, 3) := by decide +kernel
theorem dL_law_1180 : decode cL_law 1180 = .ok (.iconst 0, 1) := by decide +kernel
theorem dL_law_1181 : decode cL_law 1181 = .ok (.ireturn, 1) := by decide +kernel
theorem dL_law_1182 : decode cL_law 1182 = .ok (.aload_n 1, 1) := by decide +kernel
theorem dL_law_1183 : decode cL_law 1183 = .ok (.aload_n 0, 1) := by decide +kernel
theorem dL_law_1184 : decode cL_law 1184 = .ok (.iload_n 3, 1) := by decide +kernel
theorem dL_law_1185 : decode cL_law 1185 = .ok (.iconst 1, 1) := by decide +kernel
theorem dL_law_1186 : decode cL_law 1186 = .ok (.iadd, 1) := by decide +kernel
theorem dL_law_1187 : decode cL_law 1187 = .ok (.iaload, 1) := by decide +kernel
theorem dL_law_1188 : decode cL_law 1188 = .ok (.aload_n 0, 1) := by decide +kernel
theorem dL_law_1189 : decode cL_law 1189 = .ok (.iload_n 3, 1) := by decide +kernel
theorem dL_law_1190 : decode cL_law 1190 = .ok (.iconst 2, 1) := by decide +kernel
theorem dL_law_1191 : decode cL_law 1191 = .ok (.iadd, 1) := by decide +kernel
theorem dL_law_1192 : decode cL_law 1192 = .ok (.iaload, 1) := by decide +kernel
theorem dL_law_1193 : decode cL_law 1193 = .ok (.aload_n 0, 1) := by decide +kernel
theorem dL_law_1194 : decode cL_law 1194 = .ok (.iload_n 3, 1) := by decide +kernel
theorem dL_law_1195 : decode cL_law 1195 = .ok (.iconst 3, 1) := by decide +kernel
theorem dL_law_1196 : decode cL_law 1196 = .ok (.iadd, 1) := by decide +kernel
theorem dL_law_1197 : decode cL_law 1197 = .ok (.iaload, 1) := by decide +kernel
theorem dL_law_1198 : decode cL_law 1198 = .ok (.invokevirtual 127, 3) := by decide +kernel
theorem dL_law_1201 : decode cL_law 1201 = .ok (.aload_n 2, 1) := by decide +kernel
theorem dL_law_1202 : decode cL_law 1202 = .ok (.aload_n 0, 1) := by decide +kernel
theorem dL_law_1203 : decode cL_law 1203 = .ok (.iload_n 3, 1) := by decide +kernel
theorem dL_law_1204 : decode cL_law 1204 = .ok (.iconst 1, 1) := by decide +kernel
theorem dL_law_1205 : decode cL_law 1205 = .ok (.iadd, 1) := by decide +kernel
theorem dL_law_1206 : decode cL_law 1206 = .ok (.iaload, 1) := by decide +kernel
theorem dL_law_1207 : decode cL_law 1207 = .ok (.aload_n 0, 1) := by decide +kernel
theorem dL_law_1208 : decode cL_law 1208 = .ok (.iload_n 3, 1) := by decide +kernel
theorem dL_law_1209 : decode cL_law 1209 = .ok (.iconst 2, 1) := by decide +kernel
theorem dL_law_1210 : decode cL_law 1210 = .ok (.iadd, 1) := by decide +kernel
theorem dL_law_1211 : decode cL_law 1211 = .ok (.iaload, 1) := by decide +kernel
theorem dL_law_1212 : decode cL_law 1212 = .ok (.aload_n 0, 1) := by decide +kernel
theorem dL_law_1213 : decode cL_law 1213 = .ok (.iload_n 3, 1) := by decide +kernel
theorem dL_law_1214 : decode cL_law 1214 = .ok (.iconst 3, 1) := by decide +kernel
theorem dL_law_1215 : decode cL_law 1215 = .ok (.iadd, 1) := by decide +kernel
theorem dL_law_1216 : decode cL_law 1216 = .ok (.iaload, 1) := by decide +kernel
theorem dL_law_1217 : decode cL_law 1217 = .ok (.invokevirtual 130, 3) := by decide +kernel
theorem dL_law_1220 : decode cL_law 1220 = .ok (.lcmp, 1) := by decide +kernel
theorem dL_law_1221 : decode cL_law 1221 = .ok (.ifCond .eq 891, 3) := by decide +kernel
theorem dL_law_1224 : decode cL_law 1224 = .ok (.iconst 0, 1) := by decide +kernel
theorem dL_law_1225 : decode cL_law 1225 = .ok (.ireturn, 1) := by decide +kernel
theorem dL_law_1226 : decode cL_law 1226 = .ok (.aload_n 1, 1) := by decide +kernel
theorem dL_law_1227 : decode cL_law 1227 = .ok (.aload_n 0, 1) := by decide +kernel
theorem dL_law_1228 : decode cL_law 1228 = .ok (.iload_n 3, 1) := by decide +kernel
theorem dL_law_1229 : decode cL_law 1229 = .ok (.iconst 1, 1) := by decide +kernel
theorem dL_law_1230 : decode cL_law 1230 = .ok (.iadd, 1) := by decide +kernel
theorem dL_law_1231 : decode cL_law 1231 = .ok (.iaload, 1) := by decide +kernel
theorem dL_law_1232 : decode cL_law 1232 = .ok (.aload_n 0, 1) := by decide +kernel
theorem dL_law_1233 : decode cL_law 1233 = .ok (.iload_n 3, 1) := by decide +kernel
theorem dL_law_1234 : decode cL_law 1234 = .ok (.iconst 2, 1) := by decide +kernel
theorem dL_law_1235 : decode cL_law 1235 = .ok (.iadd, 1) := by decide +kernel
theorem dL_law_1236 : decode cL_law 1236 = .ok (.iaload, 1) := by decide +kernel
theorem dL_law_1237 : decode cL_law 1237 = .ok (.aload_n 0, 1) := by decide +kernel
theorem dL_law_1238 : decode cL_law 1238 = .ok (.iload_n 3, 1) := by decide +kernel
theorem dL_law_1239 : decode cL_law 1239 = .ok (.iconst 3, 1) := by decide +kernel
theorem dL_law_1240 : decode cL_law 1240 = .ok (.iadd, 1) := by decide +kernel
theorem dL_law_1241 : decode cL_law 1241 = .ok (.iaload, 1) := by decide +kernel
theorem dL_law_1242 : decode cL_law 1242 = .ok (.aload_n 0, 1) := by decide +kernel
theorem dL_law_1243 : decode cL_law 1243 = .ok (.iload_n 3, 1) := by decide +kernel
theorem dL_law_1244 : decode cL_law 1244 = .ok (.iconst 4, 1) := by decide +kernel
theorem dL_law_1245 : decode cL_law 1245 = .ok (.iadd, 1) := by decide +kernel
theorem dL_law_1246 : decode cL_law 1246 = .ok (.iaload, 1) := by decide +kernel
theorem dL_law_1247 : decode cL_law 1247 = .ok (.invokevirtual 131, 3) := by decide +kernel
theorem dL_law_1250 : decode cL_law 1250 = .ok (.aload_n 2, 1) := by decide +kernel
theorem dL_law_1251 : decode cL_law 1251 = .ok (.aload_n 0, 1) := by decide +kernel
theorem dL_law_1252 : decode cL_law 1252 = .ok (.iload_n 3, 1) := by decide +kernel
theorem dL_law_1253 : decode cL_law 1253 = .ok (.iconst 1, 1) := by decide +kernel
theorem dL_law_1254 : decode cL_law 1254 = .ok (.iadd, 1) := by decide +kernel
theorem dL_law_1255 : decode cL_law 1255 = .ok (.iaload, 1) := by decide +kernel
theorem dL_law_1256 : decode cL_law 1256 = .ok (.aload_n 0, 1) := by decide +kernel
theorem dL_law_1257 : decode cL_law 1257 = .ok (.iload_n 3, 1) := by decide +kernel
theorem dL_law_1258 : decode cL_law 1258 = .ok (.iconst 2, 1) := by decide +kernel
theorem dL_law_1259 : decode cL_law 1259 = .ok (.iadd, 1) := by decide +kernel
theorem dL_law_1260 : decode cL_law 1260 = .ok (.iaload, 1) := by decide +kernel
theorem dL_law_1261 : decode cL_law 1261 = .ok (.aload_n 0, 1) := by decide +kernel
theorem dL_law_1262 : decode cL_law 1262 = .ok (.iload_n 3, 1) := by decide +kernel
theorem dL_law_1263 : decode cL_law 1263 = .ok (.iconst 3, 1) := by decide +kernel
theorem dL_law_1264 : decode cL_law 1264 = .ok (.iadd, 1) := by decide +kernel
theorem dL_law_1265 : decode cL_law 1265 = .ok (.iaload, 1) := by decide +kernel
theorem dL_law_1266 : decode cL_law 1266 = .ok (.aload_n 0, 1) := by decide +kernel
theorem dL_law_1267 : decode cL_law 1267 = .ok (.iload_n 3, 1) := by decide +kernel
theorem dL_law_1268 : decode cL_law 1268 = .ok (.iconst 4, 1) := by decide +kernel
theorem dL_law_1269 : decode cL_law 1269 = .ok (.iadd, 1) := by decide +kernel
theorem dL_law_1270 : decode cL_law 1270 = .ok (.iaload, 1) := by decide +kernel
theorem dL_law_1271 : decode cL_law 1271 = .ok (.invokevirtual 135, 3) := by decide +kernel
theorem dL_law_1274 : decode cL_law 1274 = .ok (.if_icmp .eq 838, 3) := by decide +kernel
theorem dL_law_1277 : decode cL_law 1277 = .ok (.iconst 0, 1) := by decide +kernel
theorem dL_law_1278 : decode cL_law 1278 = .ok (.ireturn, 1) := by decide +kernel
theorem dL_law_1279 : decode cL_law 1279 = .ok (.aload_n 1, 1) := by decide +kernel
theorem dL_law_1280 : decode cL_law 1280 = .ok (.aload_n 0, 1) := by decide +kernel
theorem dL_law_1281 : decode cL_law 1281 = .ok (.iload_n 3, 1) := by decide +kernel
theorem dL_law_1282 : decode cL_law 1282 = .ok (.iconst 1, 1) := by decide +kernel
theorem dL_law_1283 : decode cL_law 1283 = .ok (.iadd, 1) := by decide +kernel
theorem dL_law_1284 : decode cL_law 1284 = .ok (.iaload, 1) := by decide +kernel
theorem dL_law_1285 : decode cL_law 1285 = .ok (.aload_n 0, 1) := by decide +kernel
theorem dL_law_1286 : decode cL_law 1286 = .ok (.iload_n 3, 1) := by decide +kernel
theorem dL_law_1287 : decode cL_law 1287 = .ok (.iconst 2, 1) := by decide +kernel
theorem dL_law_1288 : decode cL_law 1288 = .ok (.iadd, 1) := by decide +kernel
theorem dL_law_1289 : decode cL_law 1289 = .ok (.iaload, 1) := by decide +kernel
theorem dL_law_1290 : decode cL_law 1290 = .ok (.aload_n 0, 1) := by decide +kernel
theorem dL_law_1291 : decode cL_law 1291 = .ok (.iload_n 3, 1) := by decide +kernel
theorem dL_law_1292 : decode cL_law 1292 = .ok (.iconst 3, 1) := by decide +kernel
theorem dL_law_1293 : decode cL_law 1293 = .ok (.iadd, 1) := by decide +kernel
theorem dL_law_1294 : decode cL_law 1294 = .ok (.iaload, 1) := by decide +kernel
theorem dL_law_1295 : decode cL_law 1295 = .ok (.aload_n 0, 1) := by decide +kernel
theorem dL_law_1296 : decode cL_law 1296 = .ok (.iload_n 3, 1) := by decide +kernel
theorem dL_law_1297 : decode cL_law 1297 = .ok (.iconst 4, 1) := by decide +kernel
theorem dL_law_1298 : decode cL_law 1298 = .ok (.iadd, 1) := by decide +kernel
theorem dL_law_1299 : decode cL_law 1299 = .ok (.iaload, 1) := by decide +kernel
theorem dL_law_1300 : decode cL_law 1300 = .ok (.invokevirtual 136, 3) := by decide +kernel
theorem dL_law_1303 : decode cL_law 1303 = .ok (.aload_n 2, 1) := by decide +kernel
theorem dL_law_1304 : decode cL_law 1304 = .ok (.aload_n 0, 1) := by decide +kernel
theorem dL_law_1305 : decode cL_law 1305 = .ok (.iload_n 3, 1) := by decide +kernel
theorem dL_law_1306 : decode cL_law 1306 = .ok (.iconst 1, 1) := by decide +kernel
theorem dL_law_1307 : decode cL_law 1307 = .ok (.iadd, 1) := by decide +kernel
theorem dL_law_1308 : decode cL_law 1308 = .ok (.iaload, 1) := by decide +kernel
theorem dL_law_1309 : decode cL_law 1309 = .ok (.aload_n 0, 1) := by decide +kernel
theorem dL_law_1310 : decode cL_law 1310 = .ok (.iload_n 3, 1) := by decide +kernel
theorem dL_law_1311 : decode cL_law 1311 = .ok (.iconst 2, 1) := by decide +kernel
theorem dL_law_1312 : decode cL_law 1312 = .ok (.iadd, 1) := by decide +kernel
theorem dL_law_1313 : decode cL_law 1313 = .ok (.iaload, 1) := by decide +kernel
theorem dL_law_1314 : decode cL_law 1314 = .ok (.aload_n 0, 1) := by decide +kernel
theorem dL_law_1315 : decode cL_law 1315 = .ok (.iload_n 3, 1) := by decide +kernel
theorem dL_law_1316 : decode cL_law 1316 = .ok (.iconst 3, 1) := by decide +kernel
theorem dL_law_1317 : decode cL_law 1317 = .ok (.iadd, 1) := by decide +kernel
theorem dL_law_1318 : decode cL_law 1318 = .ok (.iaload, 1) := by decide +kernel
theorem dL_law_1319 : decode cL_law 1319 = .ok (.aload_n 0, 1) := by decide +kernel
theorem dL_law_1320 : decode cL_law 1320 = .ok (.iload_n 3, 1) := by decide +kernel
theorem dL_law_1321 : decode cL_law 1321 = .ok (.iconst 4, 1) := by decide +kernel
theorem dL_law_1322 : decode cL_law 1322 = .ok (.iadd, 1) := by decide +kernel
theorem dL_law_1323 : decode cL_law 1323 = .ok (.iaload, 1) := by decide +kernel
theorem dL_law_1324 : decode cL_law 1324 = .ok (.invokevirtual 139, 3) := by decide +kernel
theorem dL_law_1327 : decode cL_law 1327 = .ok (.if_icmp .eq 785, 3) := by decide +kernel
theorem dL_law_1330 : decode cL_law 1330 = .ok (.iconst 0, 1) := by decide +kernel
theorem dL_law_1331 : decode cL_law 1331 = .ok (.ireturn, 1) := by decide +kernel
theorem dL_law_1332 : decode cL_law 1332 = .ok (.aload_n 1, 1) := by decide +kernel
theorem dL_law_1333 : decode cL_law 1333 = .ok (.aload_n 0, 1) := by decide +kernel
theorem dL_law_1334 : decode cL_law 1334 = .ok (.iload_n 3, 1) := by decide +kernel
theorem dL_law_1335 : decode cL_law 1335 = .ok (.iconst 1, 1) := by decide +kernel
theorem dL_law_1336 : decode cL_law 1336 = .ok (.iadd, 1) := by decide +kernel
theorem dL_law_1337 : decode cL_law 1337 = .ok (.iaload, 1) := by decide +kernel
theorem dL_law_1338 : decode cL_law 1338 = .ok (.aload_n 0, 1) := by decide +kernel
theorem dL_law_1339 : decode cL_law 1339 = .ok (.iload_n 3, 1) := by decide +kernel
theorem dL_law_1340 : decode cL_law 1340 = .ok (.iconst 2, 1) := by decide +kernel
theorem dL_law_1341 : decode cL_law 1341 = .ok (.iadd, 1) := by decide +kernel
theorem dL_law_1342 : decode cL_law 1342 = .ok (.iaload, 1) := by decide +kernel
theorem dL_law_1343 : decode cL_law 1343 = .ok (.invokevirtual 140, 3) := by decide +kernel
theorem dL_law_1346 : decode cL_law 1346 = .ok (.aload_n 2, 1) := by decide +kernel
theorem dL_law_1347 : decode cL_law 1347 = .ok (.aload_n 0, 1) := by decide +kernel
theorem dL_law_1348 : decode cL_law 1348 = .ok (.iload_n 3, 1) := by decide +kernel
theorem dL_law_1349 : decode cL_law 1349 = .ok (.iconst 1, 1) := by decide +kernel
theorem dL_law_1350 : decode cL_law 1350 = .ok (.iadd, 1) := by decide +kernel
theorem dL_law_1351 : decode cL_law 1351 = .ok (.iaload, 1) := by decide +kernel
theorem dL_law_1352 : decode cL_law 1352 = .ok (.aload_n 0, 1) := by decide +kernel
theorem dL_law_1353 : decode cL_law 1353 = .ok (.iload_n 3, 1) := by decide +kernel
theorem dL_law_1354 : decode cL_law 1354 = .ok (.iconst 2, 1) := by decide +kernel
theorem dL_law_1355 : decode cL_law 1355 = .ok (.iadd, 1) := by decide +kernel
theorem dL_law_1356 : decode cL_law 1356 = .ok (.iaload, 1) := by decide +kernel
theorem dL_law_1357 : decode cL_law 1357 = .ok (.invokevirtual 143, 3) := by decide +kernel
theorem dL_law_1360 : decode cL_law 1360 = .ok (.if_icmp .eq 752, 3) := by decide +kernel
theorem dL_law_1363 : decode cL_law 1363 = .ok (.iconst 0, 1) := by decide +kernel
theorem dL_law_1364 : decode cL_law 1364 = .ok (.ireturn, 1) := by decide +kernel
theorem dL_law_1365 : decode cL_law 1365 = .ok (.aload_n 1, 1) := by decide +kernel
theorem dL_law_1366 : decode cL_law 1366 = .ok (.aload_n 0, 1) := by decide +kernel
theorem dL_law_1367 : decode cL_law 1367 = .ok (.iload_n 3, 1) := by decide +kernel
theorem dL_law_1368 : decode cL_law 1368 = .ok (.iconst 1, 1) := by decide +kernel
theorem dL_law_1369 : decode cL_law 1369 = .ok (.iadd, 1) := by decide +kernel
theorem dL_law_1370 : decode cL_law 1370 = .ok (.iaload, 1) := by decide +kernel
theorem dL_law_1371 : decode cL_law 1371 = .ok (.aload_n 0, 1) := by decide +kernel
theorem dL_law_1372 : decode cL_law 1372 = .ok (.iload_n 3, 1) := by decide +kernel
theorem dL_law_1373 : decode cL_law 1373 = .ok (.iconst 2, 1) := by decide +kernel
theorem dL_law_1374 : decode cL_law 1374 = .ok (.iadd, 1) := by decide +kernel
theorem dL_law_1375 : decode cL_law 1375 = .ok (.iaload, 1) := by decide +kernel
theorem dL_law_1376 : decode cL_law 1376 = .ok (.aload_n 0, 1) := by decide +kernel
theorem dL_law_1377 : decode cL_law 1377 = .ok (.iload_n 3, 1) := by decide +kernel
theorem dL_law_1378 : decode cL_law 1378 = .ok (.iconst 3, 1) := by decide +kernel
theorem dL_law_1379 : decode cL_law 1379 = .ok (.iadd, 1) := by decide +kernel
theorem dL_law_1380 : decode cL_law 1380 = .ok (.iaload, 1) := by decide +kernel
theorem dL_law_1381 : decode cL_law 1381 = .ok (.aload_n 0, 1) := by decide +kernel
theorem dL_law_1382 : decode cL_law 1382 = .ok (.iload_n 3, 1) := by decide +kernel
theorem dL_law_1383 : decode cL_law 1383 = .ok (.iconst 4, 1) := by decide +kernel
theorem dL_law_1384 : decode cL_law 1384 = .ok (.iadd, 1) := by decide +kernel
theorem dL_law_1385 : decode cL_law 1385 = .ok (.iaload, 1) := by decide +kernel
theorem dL_law_1386 : decode cL_law 1386 = .ok (.invokevirtual 144, 3) := by decide +kernel
theorem dL_law_1389 : decode cL_law 1389 = .ok (.aload_n 2, 1) := by decide +kernel
theorem dL_law_1390 : decode cL_law 1390 = .ok (.aload_n 0, 1) := by decide +kernel
theorem dL_law_1391 : decode cL_law 1391 = .ok (.iload_n 3, 1) := by decide +kernel
theorem dL_law_1392 : decode cL_law 1392 = .ok (.iconst 1, 1) := by decide +kernel
theorem dL_law_1393 : decode cL_law 1393 = .ok (.iadd, 1) := by decide +kernel
theorem dL_law_1394 : decode cL_law 1394 = .ok (.iaload, 1) := by decide +kernel
theorem dL_law_1395 : decode cL_law 1395 = .ok (.aload_n 0, 1) := by decide +kernel
theorem dL_law_1396 : decode cL_law 1396 = .ok (.iload_n 3, 1) := by decide +kernel
theorem dL_law_1397 : decode cL_law 1397 = .ok (.iconst 2, 1) := by decide +kernel
theorem dL_law_1398 : decode cL_law 1398 = .ok (.iadd, 1) := by decide +kernel
theorem dL_law_1399 : decode cL_law 1399 = .ok (.iaload, 1) := by decide +kernel
theorem dL_law_1400 : decode cL_law 1400 = .ok (.aload_n 0, 1) := by decide +kernel
theorem dL_law_1401 : decode cL_law 1401 = .ok (.iload_n 3, 1) := by decide +kernel
theorem dL_law_1402 : decode cL_law 1402 = .ok (.iconst 3, 1) := by decide +kernel
theorem dL_law_1403 : decode cL_law 1403 = .ok (.iadd, 1) := by decide +kernel
theorem dL_law_1404 : decode cL_law 1404 = .ok (.iaload, 1) := by decide +kernel
theorem dL_law_1405 : decode cL_law 1405 = .ok (.aload_n 0, 1) := by decide +kernel
theorem dL_law_1406 : decode cL_law 1406 = .ok (.iload_n 3, 1) := by decide +kernel
theorem dL_law_1407 : decode cL_law 1407 = .ok (.iconst 4, 1) := by decide +kernel
theorem dL_law_1408 : decode cL_law 1408 = .ok (.iadd, 1) := by decide +kernel
theorem dL_law_1409 : decode cL_law 1409 = .ok (.iaload, 1) := by decide +kernel
theorem dL_law_1410 : decode cL_law 1410 = .ok (.invokevirtual 148, 3) := by decide +kernel
theorem dL_law_1413 : decode cL_law 1413 = .ok (.lcmp, 1) := by decide +kernel
theorem dL_law_1414 : decode cL_law 1414 = .ok (.ifCond .eq 698, 3) := by decide +kernel
theorem dL_law_1417 : decode cL_law 1417 = .ok (.iconst 0, 1) := by decide +kernel
theorem dL_law_1418 : decode cL_law 1418 = .ok (.ireturn, 1) := by decide +kernel
theorem dL_law_1419 : decode cL_law 1419 = .ok (.aload_n 1, 1) := by decide +kernel
theorem dL_law_1420 : decode cL_law 1420 = .ok (.aload_n 0, 1) := by decide +kernel
theorem dL_law_1421 : decode cL_law 1421 = .ok (.iload_n 3, 1) := by decide +kernel
theorem dL_law_1422 : decode cL_law 1422 = .ok (.iconst 1, 1) := by decide +kernel
theorem dL_law_1423 : decode cL_law 1423 = .ok (.iadd, 1) := by decide +kernel
theorem dL_law_1424 : decode cL_law 1424 = .ok (.iaload, 1) := by decide +kernel
theorem dL_law_1425 : decode cL_law 1425 = .ok (.aload_n 0, 1) := by decide +kernel
theorem dL_law_1426 : decode cL_law 1426 = .ok (.iload_n 3, 1) := by decide +kernel
theorem dL_law_1427 : decode cL_law 1427 = .ok (.iconst 2, 1) := by decide +kernel
theorem dL_law_1428 : decode cL_law 1428 = .ok (.iadd, 1) := by decide +kernel
theorem dL_law_1429 : decode cL_law 1429 = .ok (.iaload, 1) := by decide +kernel
theorem dL_law_1430 : decode cL_law 1430 = .ok (.aload_n 0, 1) := by decide +kernel
theorem dL_law_1431 : decode cL_law 1431 = .ok (.iload_n 3, 1) := by decide +kernel
theorem dL_law_1432 : decode cL_law 1432 = .ok (.iconst 3, 1) := by decide +kernel
theorem dL_law_1433 : decode cL_law 1433 = .ok (.iadd, 1) := by decide +kernel
theorem dL_law_1434 : decode cL_law 1434 = .ok (.iaload, 1) := by decide +kernel
theorem dL_law_1435 : decode cL_law 1435 = .ok (.invokevirtual 149, 3) := by decide +kernel
theorem dL_law_1438 : decode cL_law 1438 = .ok (.aload_n 2, 1) := by decide +kernel
theorem dL_law_1439 : decode cL_law 1439 = .ok (.aload_n 0, 1) := by decide +kernel
theorem dL_law_1440 : decode cL_law 1440 = .ok (.iload_n 3, 1) := by decide +kernel
theorem dL_law_1441 : decode cL_law 1441 = .ok (.iconst 1, 1) := by decide +kernel
theorem dL_law_1442 : decode cL_law 1442 = .ok (.iadd, 1) := by decide +kernel
theorem dL_law_1443 : decode cL_law 1443 = .ok (.iaload, 1) := by decide +kernel
theorem dL_law_1444 : decode cL_law 1444 = .ok (.aload_n 0, 1) := by decide +kernel
theorem dL_law_1445 : decode cL_law 1445 = .ok (.iload_n 3, 1) := by decide +kernel
theorem dL_law_1446 : decode cL_law 1446 = .ok (.iconst 2, 1) := by decide +kernel
theorem dL_law_1447 : decode cL_law 1447 = .ok (.iadd, 1) := by decide +kernel
theorem dL_law_1448 : decode cL_law 1448 = .ok (.iaload, 1) := by decide +kernel
theorem dL_law_1449 : decode cL_law 1449 = .ok (.aload_n 0, 1) := by decide +kernel
theorem dL_law_1450 : decode cL_law 1450 = .ok (.iload_n 3, 1) := by decide +kernel
theorem dL_law_1451 : decode cL_law 1451 = .ok (.iconst 3, 1) := by decide +kernel
theorem dL_law_1452 : decode cL_law 1452 = .ok (.iadd, 1) := by decide +kernel
theorem dL_law_1453 : decode cL_law 1453 = .ok (.iaload, 1) := by decide +kernel
theorem dL_law_1454 : decode cL_law 1454 = .ok (.invokevirtual 153, 3) := by decide +kernel
theorem dL_law_1457 : decode cL_law 1457 = .ok (.if_icmp .eq 655, 3) := by decide +kernel
theorem dL_law_1460 : decode cL_law 1460 = .ok (.iconst 0, 1) := by decide +kernel
theorem dL_law_1461 : decode cL_law 1461 = .ok (.ireturn, 1) := by decide +kernel
theorem dL_law_1462 : decode cL_law 1462 = .ok (.aload_n 1, 1) := by decide +kernel
theorem dL_law_1463 : decode cL_law 1463 = .ok (.aload_n 0, 1) := by decide +kernel
theorem dL_law_1464 : decode cL_law 1464 = .ok (.iload_n 3, 1) := by decide +kernel
theorem dL_law_1465 : decode cL_law 1465 = .ok (.iconst 1, 1) := by decide +kernel
theorem dL_law_1466 : decode cL_law 1466 = .ok (.iadd, 1) := by decide +kernel
theorem dL_law_1467 : decode cL_law 1467 = .ok (.iaload, 1) := by decide +kernel
theorem dL_law_1468 : decode cL_law 1468 = .ok (.aload_n 0, 1) := by decide +kernel
theorem dL_law_1469 : decode cL_law 1469 = .ok (.iload_n 3, 1) := by decide +kernel
theorem dL_law_1470 : decode cL_law 1470 = .ok (.iconst 2, 1) := by decide +kernel
theorem dL_law_1471 : decode cL_law 1471 = .ok (.iadd, 1) := by decide +kernel
theorem dL_law_1472 : decode cL_law 1472 = .ok (.iaload, 1) := by decide +kernel
theorem dL_law_1473 : decode cL_law 1473 = .ok (.aload_n 0, 1) := by decide +kernel
theorem dL_law_1474 : decode cL_law 1474 = .ok (.iload_n 3, 1) := by decide +kernel
theorem dL_law_1475 : decode cL_law 1475 = .ok (.iconst 3, 1) := by decide +kernel
theorem dL_law_1476 : decode cL_law 1476 = .ok (.iadd, 1) := by decide +kernel
theorem dL_law_1477 : decode cL_law 1477 = .ok (.iaload, 1) := by decide +kernel
theorem dL_law_1478 : decode cL_law 1478 = .ok (.invokevirtual 154, 3) := by decide +kernel
theorem dL_law_1481 : decode cL_law 1481 = .ok (.aload_n 2, 1) := by decide +kernel
theorem dL_law_1482 : decode cL_law 1482 = .ok (.aload_n 0, 1) := by decide +kernel
theorem dL_law_1483 : decode cL_law 1483 = .ok (.iload_n 3, 1) := by decide +kernel
theorem dL_law_1484 : decode cL_law 1484 = .ok (.iconst 1, 1) := by decide +kernel
theorem dL_law_1485 : decode cL_law 1485 = .ok (.iadd, 1) := by decide +kernel
theorem dL_law_1486 : decode cL_law 1486 = .ok (.iaload, 1) := by decide +kernel
theorem dL_law_1487 : decode cL_law 1487 = .ok (.aload_n 0, 1) := by decide +kernel
theorem dL_law_1488 : decode cL_law 1488 = .ok (.iload_n 3, 1) := by decide +kernel
theorem dL_law_1489 : decode cL_law 1489 = .ok (.iconst 2, 1) := by decide +kernel
theorem dL_law_1490 : decode cL_law 1490 = .ok (.iadd, 1) := by decide +kernel
theorem dL_law_1491 : decode cL_law 1491 = .ok (.iaload, 1) := by decide +kernel
theorem dL_law_1492 : decode cL_law 1492 = .ok (.aload_n 0, 1) := by decide +kernel
theorem dL_law_1493 : decode cL_law 1493 = .ok (.iload_n 3, 1) := by decide +kernel
theorem dL_law_1494 : decode cL_law 1494 = .ok (.iconst 3, 1) := by decide +kernel
theorem dL_law_1495 : decode cL_law 1495 = .ok (.iadd, 1) := by decide +kernel
theorem dL_law_1496 : decode cL_law 1496 = .ok (.iaload, 1) := by decide +kernel
theorem dL_law_1497 : decode cL_law 1497 = .ok (.invokevirtual 157, 3) := by decide +kernel
theorem dL_law_1500 : decode cL_law 1500 = .ok (.if_icmp .eq 612, 3) := by decide +kernel
theorem dL_law_1503 : decode cL_law 1503 = .ok (.iconst 0, 1) := by decide +kernel
theorem dL_law_1504 : decode cL_law 1504 = .ok (.ireturn, 1) := by decide +kernel
theorem dL_law_1505 : decode cL_law 1505 = .ok (.aload_n 1, 1) := by decide +kernel
theorem dL_law_1506 : decode cL_law 1506 = .ok (.aload_n 0, 1) := by decide +kernel
theorem dL_law_1507 : decode cL_law 1507 = .ok (.iload_n 3, 1) := by decide +kernel
theorem dL_law_1508 : decode cL_law 1508 = .ok (.iconst 1, 1) := by decide +kernel
theorem dL_law_1509 : decode cL_law 1509 = .ok (.iadd, 1) := by decide +kernel
theorem dL_law_1510 : decode cL_law 1510 = .ok (.iaload, 1) := by decide +kernel
theorem dL_law_1511 : decode cL_law 1511 = .ok (.aload_n 0, 1) := by decide +kernel
theorem dL_law_1512 : decode cL_law 1512 = .ok (.iload_n 3, 1) := by decide +kernel
theorem dL_law_1513 : decode cL_law 1513 = .ok (.iconst 2, 1) := by decide +kernel
theorem dL_law_1514 : decode cL_law 1514 = .ok (.iadd, 1) := by decide +kernel
theorem dL_law_1515 : decode cL_law 1515 = .ok (.iaload, 1) := by decide +kernel
theorem dL_law_1516 : decode cL_law 1516 = .ok (.invokevirtual 158, 3) := by decide +kernel
theorem dL_law_1519 : decode cL_law 1519 = .ok (.aload_n 2, 1) := by decide +kernel
theorem dL_law_1520 : decode cL_law 1520 = .ok (.aload_n 0, 1) := by decide +kernel
theorem dL_law_1521 : decode cL_law 1521 = .ok (.iload_n 3, 1) := by decide +kernel
theorem dL_law_1522 : decode cL_law 1522 = .ok (.iconst 1, 1) := by decide +kernel
theorem dL_law_1523 : decode cL_law 1523 = .ok (.iadd, 1) := by decide +kernel
theorem dL_law_1524 : decode cL_law 1524 = .ok (.iaload, 1) := by decide +kernel
theorem dL_law_1525 : decode cL_law 1525 = .ok (.aload_n 0, 1) := by decide +kernel
theorem dL_law_1526 : decode cL_law 1526 = .ok (.iload_n 3, 1) := by decide +kernel
theorem dL_law_1527 : decode cL_law 1527 = .ok (.iconst 2, 1) := by decide +kernel
theorem dL_law_1528 : decode cL_law 1528 = .ok (.iadd, 1) := by decide +kernel
theorem dL_law_1529 : decode cL_law 1529 = .ok (.iaload, 1) := by decide +kernel
theorem dL_law_1530 : decode cL_law 1530 = .ok (.invokevirtual 161, 3) := by decide +kernel
theorem dL_law_1533 : decode cL_law 1533 = .ok (.if_icmp .eq 579, 3) := by decide +kernel
theorem dL_law_1536 : decode cL_law 1536 = .ok (.iconst 0, 1) := by decide +kernel
theorem dL_law_1537 : decode cL_law 1537 = .ok (.ireturn, 1) := by decide +kernel
theorem dL_law_1538 : decode cL_law 1538 = .ok (.aload_n 1, 1) := by decide +kernel
theorem dL_law_1539 : decode cL_law 1539 = .ok (.aload_n 0, 1) := by decide +kernel
theorem dL_law_1540 : decode cL_law 1540 = .ok (.iload_n 3, 1) := by decide +kernel
theorem dL_law_1541 : decode cL_law 1541 = .ok (.iconst 1, 1) := by decide +kernel
theorem dL_law_1542 : decode cL_law 1542 = .ok (.iadd, 1) := by decide +kernel
theorem dL_law_1543 : decode cL_law 1543 = .ok (.iaload, 1) := by decide +kernel
theorem dL_law_1544 : decode cL_law 1544 = .ok (.aload_n 0, 1) := by decide +kernel
theorem dL_law_1545 : decode cL_law 1545 = .ok (.iload_n 3, 1) := by decide +kernel
theorem dL_law_1546 : decode cL_law 1546 = .ok (.iconst 2, 1) := by decide +kernel
theorem dL_law_1547 : decode cL_law 1547 = .ok (.iadd, 1) := by decide +kernel
theorem dL_law_1548 : decode cL_law 1548 = .ok (.iaload, 1) := by decide +kernel
theorem dL_law_1549 : decode cL_law 1549 = .ok (.ifCond .eq 7, 3) := by decide +kernel
theorem dL_law_1552 : decode cL_law 1552 = .ok (.iconst 1, 1) := by decide +kernel
theorem dL_law_1553 : decode cL_law 1553 = .ok (.goto 4, 3) := by decide +kernel
theorem dL_law_1556 : decode cL_law 1556 = .ok (.iconst 0, 1) := by decide +kernel
theorem dL_law_1557 : decode cL_law 1557 = .ok (.aload_n 0, 1) := by decide +kernel
theorem dL_law_1558 : decode cL_law 1558 = .ok (.iload_n 3, 1) := by decide +kernel
theorem dL_law_1559 : decode cL_law 1559 = .ok (.iconst 3, 1) := by decide +kernel
theorem dL_law_1560 : decode cL_law 1560 = .ok (.iadd, 1) := by decide +kernel
theorem dL_law_1561 : decode cL_law 1561 = .ok (.iaload, 1) := by decide +kernel
theorem dL_law_1562 : decode cL_law 1562 = .ok (.aload_n 0, 1) := by decide +kernel
theorem dL_law_1563 : decode cL_law 1563 = .ok (.iload_n 3, 1) := by decide +kernel
theorem dL_law_1564 : decode cL_law 1564 = .ok (.iconst 4, 1) := by decide +kernel
theorem dL_law_1565 : decode cL_law 1565 = .ok (.iadd, 1) := by decide +kernel
theorem dL_law_1566 : decode cL_law 1566 = .ok (.iaload, 1) := by decide +kernel
theorem dL_law_1567 : decode cL_law 1567 = .ok (.aload_n 0, 1) := by decide +kernel
theorem dL_law_1568 : decode cL_law 1568 = .ok (.iload_n 3, 1) := by decide +kernel
theorem dL_law_1569 : decode cL_law 1569 = .ok (.iconst 5, 1) := by decide +kernel
theorem dL_law_1570 : decode cL_law 1570 = .ok (.iadd, 1) := by decide +kernel
theorem dL_law_1571 : decode cL_law 1571 = .ok (.iaload, 1) := by decide +kernel
theorem dL_law_1572 : decode cL_law 1572 = .ok (.invokevirtual 162, 3) := by decide +kernel
theorem dL_law_1575 : decode cL_law 1575 = .ok (.aload_n 2, 1) := by decide +kernel
theorem dL_law_1576 : decode cL_law 1576 = .ok (.aload_n 0, 1) := by decide +kernel
theorem dL_law_1577 : decode cL_law 1577 = .ok (.iload_n 3, 1) := by decide +kernel
theorem dL_law_1578 : decode cL_law 1578 = .ok (.iconst 1, 1) := by decide +kernel
theorem dL_law_1579 : decode cL_law 1579 = .ok (.iadd, 1) := by decide +kernel
theorem dL_law_1580 : decode cL_law 1580 = .ok (.iaload, 1) := by decide +kernel
theorem dL_law_1581 : decode cL_law 1581 = .ok (.aload_n 0, 1) := by decide +kernel
theorem dL_law_1582 : decode cL_law 1582 = .ok (.iload_n 3, 1) := by decide +kernel
theorem dL_law_1583 : decode cL_law 1583 = .ok (.iconst 2, 1) := by decide +kernel
theorem dL_law_1584 : decode cL_law 1584 = .ok (.iadd, 1) := by decide +kernel
theorem dL_law_1585 : decode cL_law 1585 = .ok (.iaload, 1) := by decide +kernel
theorem dL_law_1586 : decode cL_law 1586 = .ok (.ifCond .eq 7, 3) := by decide +kernel
theorem dL_law_1589 : decode cL_law 1589 = .ok (.iconst 1, 1) := by decide +kernel
theorem dL_law_1590 : decode cL_law 1590 = .ok (.goto 4, 3) := by decide +kernel
theorem dL_law_1593 : decode cL_law 1593 = .ok (.iconst 0, 1) := by decide +kernel
theorem dL_law_1594 : decode cL_law 1594 = .ok (.aload_n 0, 1) := by decide +kernel
theorem dL_law_1595 : decode cL_law 1595 = .ok (.iload_n 3, 1) := by decide +kernel
theorem dL_law_1596 : decode cL_law 1596 = .ok (.iconst 3, 1) := by decide +kernel
theorem dL_law_1597 : decode cL_law 1597 = .ok (.iadd, 1) := by decide +kernel
theorem dL_law_1598 : decode cL_law 1598 = .ok (.iaload, 1) := by decide +kernel
theorem dL_law_1599 : decode cL_law 1599 = .ok (.aload_n 0, 1) := by decide +kernel
theorem dL_law_1600 : decode cL_law 1600 = .ok (.iload_n 3, 1) := by decide +kernel
theorem dL_law_1601 : decode cL_law 1601 = .ok (.iconst 4, 1) := by decide +kernel
theorem dL_law_1602 : decode cL_law 1602 = .ok (.iadd, 1) := by decide +kernel
theorem dL_law_1603 : decode cL_law 1603 = .ok (.iaload, 1) := by decide +kernel
theorem dL_law_1604 : decode cL_law 1604 = .ok (.aload_n 0, 1) := by decide +kernel
theorem dL_law_1605 : decode cL_law 1605 = .ok (.iload_n 3, 1) := by decide +kernel
theorem dL_law_1606 : decode cL_law 1606 = .ok (.iconst 5, 1) := by decide +kernel
theorem dL_law_1607 : decode cL_law 1607 = .ok (.iadd, 1) := by decide +kernel
theorem dL_law_1608 : decode cL_law 1608 = .ok (.iaload, 1) := by decide +kernel
theorem dL_law_1609 : decode cL_law 1609 = .ok (.invokevirtual 166, 3) := by decide +kernel
theorem dL_law_1612 : decode cL_law 1612 = .ok (.lcmp, 1) := by decide +kernel
theorem dL_law_1613 : decode cL_law 1613 = .ok (.ifCond .eq 499, 3) := by decide +kernel
theorem dL_law_1616 : decode cL_law 1616 = .ok (.iconst 0, 1) := by decide +kernel
theorem dL_law_1617 : decode cL_law 1617 = .ok (.ireturn, 1) := by decide +kernel
theorem dL_law_1618 : decode cL_law 1618 = .ok (.aload_n 1, 1) := by decide +kernel
theorem dL_law_1619 : decode cL_law 1619 = .ok (.aload_n 0, 1) := by decide +kernel
theorem dL_law_1620 : decode cL_law 1620 = .ok (.iload_n 3, 1) := by decide +kernel
theorem dL_law_1621 : decode cL_law 1621 = .ok (.iconst 1, 1) := by decide +kernel
theorem dL_law_1622 : decode cL_law 1622 = .ok (.iadd, 1) := by decide +kernel
theorem dL_law_1623 : decode cL_law 1623 = .ok (.iaload, 1) := by decide +kernel
theorem dL_law_1624 : decode cL_law 1624 = .ok (.aload_n 0, 1) := by decide +kernel
theorem dL_law_1625 : decode cL_law 1625 = .ok (.iload_n 3, 1) := by decide +kernel
theorem dL_law_1626 : decode cL_law 1626 = .ok (.iconst 2, 1) := by decide +kernel
theorem dL_law_1627 : decode cL_law 1627 = .ok (.iadd, 1) := by decide +kernel
theorem dL_law_1628 : decode cL_law 1628 = .ok (.iaload, 1) := by decide +kernel
theorem dL_law_1629 : decode cL_law 1629 = .ok (.aload_n 0, 1) := by decide +kernel
theorem dL_law_1630 : decode cL_law 1630 = .ok (.iload_n 3, 1) := by decide +kernel
theorem dL_law_1631 : decode cL_law 1631 = .ok (.iconst 3, 1) := by decide +kernel
theorem dL_law_1632 : decode cL_law 1632 = .ok (.iadd, 1) := by decide +kernel
theorem dL_law_1633 : decode cL_law 1633 = .ok (.iaload, 1) := by decide +kernel
theorem dL_law_1634 : decode cL_law 1634 = .ok (.aload_n 0, 1) := by decide +kernel
theorem dL_law_1635 : decode cL_law 1635 = .ok (.iload_n 3, 1) := by decide +kernel
theorem dL_law_1636 : decode cL_law 1636 = .ok (.iconst 4, 1) := by decide +kernel
theorem dL_law_1637 : decode cL_law 1637 = .ok (.iadd, 1) := by decide +kernel
theorem dL_law_1638 : decode cL_law 1638 = .ok (.iaload, 1) := by decide +kernel
theorem dL_law_1639 : decode cL_law 1639 = .ok (.invokevirtual 167, 3) := by decide +kernel
theorem dL_law_1642 : decode cL_law 1642 = .ok (.aload_n 2, 1) := by decide +kernel
theorem dL_law_1643 : decode cL_law 1643 = .ok (.aload_n 0, 1) := by decide +kernel
theorem dL_law_1644 : decode cL_law 1644 = .ok (.iload_n 3, 1) := by decide +kernel
theorem dL_law_1645 : decode cL_law 1645 = .ok (.iconst 1, 1) := by decide +kernel
theorem dL_law_1646 : decode cL_law 1646 = .ok (.iadd, 1) := by decide +kernel
theorem dL_law_1647 : decode cL_law 1647 = .ok (.iaload, 1) := by decide +kernel
theorem dL_law_1648 : decode cL_law 1648 = .ok (.aload_n 0, 1) := by decide +kernel
theorem dL_law_1649 : decode cL_law 1649 = .ok (.iload_n 3, 1) := by decide +kernel
theorem dL_law_1650 : decode cL_law 1650 = .ok (.iconst 2, 1) := by decide +kernel
theorem dL_law_1651 : decode cL_law 1651 = .ok (.iadd, 1) := by decide +kernel
theorem dL_law_1652 : decode cL_law 1652 = .ok (.iaload, 1) := by decide +kernel
theorem dL_law_1653 : decode cL_law 1653 = .ok (.aload_n 0, 1) := by decide +kernel
theorem dL_law_1654 : decode cL_law 1654 = .ok (.iload_n 3, 1) := by decide +kernel
theorem dL_law_1655 : decode cL_law 1655 = .ok (.iconst 3, 1) := by decide +kernel
theorem dL_law_1656 : decode cL_law 1656 = .ok (.iadd, 1) := by decide +kernel
theorem dL_law_1657 : decode cL_law 1657 = .ok (.iaload, 1) := by decide +kernel
theorem dL_law_1658 : decode cL_law 1658 = .ok (.aload_n 0, 1) := by decide +kernel
theorem dL_law_1659 : decode cL_law 1659 = .ok (.iload_n 3, 1) := by decide +kernel
theorem dL_law_1660 : decode cL_law 1660 = .ok (.iconst 4, 1) := by decide +kernel
theorem dL_law_1661 : decode cL_law 1661 = .ok (.iadd, 1) := by decide +kernel
theorem dL_law_1662 : decode cL_law 1662 = .ok (.iaload, 1) := by decide +kernel
theorem dL_law_1663 : decode cL_law 1663 = .ok (.invokevirtual 170, 3) := by decide +kernel
theorem dL_law_1666 : decode cL_law 1666 = .ok (.lcmp, 1) := by decide +kernel
theorem dL_law_1667 : decode cL_law 1667 = .ok (.ifCond .eq 445, 3) := by decide +kernel
theorem dL_law_1670 : decode cL_law 1670 = .ok (.iconst 0, 1) := by decide +kernel
theorem dL_law_1671 : decode cL_law 1671 = .ok (.ireturn, 1) := by decide +kernel
theorem dL_law_1672 : decode cL_law 1672 = .ok (.aload_n 1, 1) := by decide +kernel
theorem dL_law_1673 : decode cL_law 1673 = .ok (.aload_n 0, 1) := by decide +kernel
theorem dL_law_1674 : decode cL_law 1674 = .ok (.iload_n 3, 1) := by decide +kernel
theorem dL_law_1675 : decode cL_law 1675 = .ok (.iconst 1, 1) := by decide +kernel
theorem dL_law_1676 : decode cL_law 1676 = .ok (.iadd, 1) := by decide +kernel
theorem dL_law_1677 : decode cL_law 1677 = .ok (.iaload, 1) := by decide +kernel
theorem dL_law_1678 : decode cL_law 1678 = .ok (.aload_n 0, 1) := by decide +kernel
theorem dL_law_1679 : decode cL_law 1679 = .ok (.iload_n 3, 1) := by decide +kernel
theorem dL_law_1680 : decode cL_law 1680 = .ok (.iconst 2, 1) := by decide +kernel
theorem dL_law_1681 : decode cL_law 1681 = .ok (.iadd, 1) := by decide +kernel
theorem dL_law_1682 : decode cL_law 1682 = .ok (.iaload, 1) := by decide +kernel
theorem dL_law_1683 : decode cL_law 1683 = .ok (.invokevirtual 171, 3) := by decide +kernel
theorem dL_law_1686 : decode cL_law 1686 = .ok (.aload_n 2, 1) := by decide +kernel
theorem dL_law_1687 : decode cL_law 1687 = .ok (.aload_n 0, 1) := by decide +kernel
theorem dL_law_1688 : decode cL_law 1688 = .ok (.iload_n 3, 1) := by decide +kernel
theorem dL_law_1689 : decode cL_law 1689 = .ok (.iconst 1, 1) := by decide +kernel
theorem dL_law_1690 : decode cL_law 1690 = .ok (.iadd, 1) := by decide +kernel
theorem dL_law_1691 : decode cL_law 1691 = .ok (.iaload, 1) := by decide +kernel
theorem dL_law_1692 : decode cL_law 1692 = .ok (.aload_n 0, 1) := by decide +kernel
theorem dL_law_1693 : decode cL_law 1693 = .ok (.iload_n 3, 1) := by decide +kernel
theorem dL_law_1694 : decode cL_law 1694 = .ok (.iconst 2, 1) := by decide +kernel
theorem dL_law_1695 : decode cL_law 1695 = .ok (.iadd, 1) := by decide +kernel
theorem dL_law_1696 : decode cL_law 1696 = .ok (.iaload, 1) := by decide +kernel
theorem dL_law_1697 : decode cL_law 1697 = .ok (.invokevirtual 174, 3) := by decide +kernel
theorem dL_law_1700 : decode cL_law 1700 = .ok (.lcmp, 1) := by decide +kernel
theorem dL_law_1701 : decode cL_law 1701 = .ok (.ifCond .eq 411, 3) := by decide +kernel
theorem dL_law_1704 : decode cL_law 1704 = .ok (.iconst 0, 1) := by decide +kernel
theorem dL_law_1705 : decode cL_law 1705 = .ok (.ireturn, 1) := by decide +kernel
theorem dL_law_1706 : decode cL_law 1706 = .ok (.aload_n 1, 1) := by decide +kernel
theorem dL_law_1707 : decode cL_law 1707 = .ok (.aload_n 0, 1) := by decide +kernel
theorem dL_law_1708 : decode cL_law 1708 = .ok (.iload_n 3, 1) := by decide +kernel
theorem dL_law_1709 : decode cL_law 1709 = .ok (.iconst 1, 1) := by decide +kernel
theorem dL_law_1710 : decode cL_law 1710 = .ok (.iadd, 1) := by decide +kernel
theorem dL_law_1711 : decode cL_law 1711 = .ok (.iaload, 1) := by decide +kernel
theorem dL_law_1712 : decode cL_law 1712 = .ok (.aload_n 0, 1) := by decide +kernel
theorem dL_law_1713 : decode cL_law 1713 = .ok (.iload_n 3, 1) := by decide +kernel
theorem dL_law_1714 : decode cL_law 1714 = .ok (.iconst 2, 1) := by decide +kernel
theorem dL_law_1715 : decode cL_law 1715 = .ok (.iadd, 1) := by decide +kernel
theorem dL_law_1716 : decode cL_law 1716 = .ok (.iaload, 1) := by decide +kernel
theorem dL_law_1717 : decode cL_law 1717 = .ok (.aload_n 0, 1) := by decide +kernel
theorem dL_law_1718 : decode cL_law 1718 = .ok (.iload_n 3, 1) := by decide +kernel
theorem dL_law_1719 : decode cL_law 1719 = .ok (.iconst 3, 1) := by decide +kernel
theorem dL_law_1720 : decode cL_law 1720 = .ok (.iadd, 1) := by decide +kernel
theorem dL_law_1721 : decode cL_law 1721 = .ok (.iaload, 1) := by decide +kernel
theorem dL_law_1722 : decode cL_law 1722 = .ok (.aload_n 0, 1) := by decide +kernel
theorem dL_law_1723 : decode cL_law 1723 = .ok (.iload_n 3, 1) := by decide +kernel
theorem dL_law_1724 : decode cL_law 1724 = .ok (.iconst 4, 1) := by decide +kernel
theorem dL_law_1725 : decode cL_law 1725 = .ok (.iadd, 1) := by decide +kernel
theorem dL_law_1726 : decode cL_law 1726 = .ok (.iaload, 1) := by decide +kernel
theorem dL_law_1727 : decode cL_law 1727 = .ok (.invokevirtual 175, 3) := by decide +kernel
theorem dL_law_1730 : decode cL_law 1730 = .ok (.aload_n 2, 1) := by decide +kernel
theorem dL_law_1731 : decode cL_law 1731 = .ok (.aload_n 0, 1) := by decide +kernel
theorem dL_law_1732 : decode cL_law 1732 = .ok (.iload_n 3, 1) := by decide +kernel
theorem dL_law_1733 : decode cL_law 1733 = .ok (.iconst 1, 1) := by decide +kernel
theorem dL_law_1734 : decode cL_law 1734 = .ok (.iadd, 1) := by decide +kernel
theorem dL_law_1735 : decode cL_law 1735 = .ok (.iaload, 1) := by decide +kernel
theorem dL_law_1736 : decode cL_law 1736 = .ok (.aload_n 0, 1) := by decide +kernel
theorem dL_law_1737 : decode cL_law 1737 = .ok (.iload_n 3, 1) := by decide +kernel
theorem dL_law_1738 : decode cL_law 1738 = .ok (.iconst 2, 1) := by decide +kernel
theorem dL_law_1739 : decode cL_law 1739 = .ok (.iadd, 1) := by decide +kernel
theorem dL_law_1740 : decode cL_law 1740 = .ok (.iaload, 1) := by decide +kernel
theorem dL_law_1741 : decode cL_law 1741 = .ok (.aload_n 0, 1) := by decide +kernel
theorem dL_law_1742 : decode cL_law 1742 = .ok (.iload_n 3, 1) := by decide +kernel
theorem dL_law_1743 : decode cL_law 1743 = .ok (.iconst 3, 1) := by decide +kernel
theorem dL_law_1744 : decode cL_law 1744 = .ok (.iadd, 1) := by decide +kernel
theorem dL_law_1745 : decode cL_law 1745 = .ok (.iaload, 1) := by decide +kernel
theorem dL_law_1746 : decode cL_law 1746 = .ok (.aload_n 0, 1) := by decide +kernel
theorem dL_law_1747 : decode cL_law 1747 = .ok (.iload_n 3, 1) := by decide +kernel
theorem dL_law_1748 : decode cL_law 1748 = .ok (.iconst 4, 1) := by decide +kernel
theorem dL_law_1749 : decode cL_law 1749 = .ok (.iadd, 1) := by decide +kernel
theorem dL_law_1750 : decode cL_law 1750 = .ok (.iaload, 1) := by decide +kernel
theorem dL_law_1751 : decode cL_law 1751 = .ok (.invokevirtual 178, 3) := by decide +kernel
theorem dL_law_1754 : decode cL_law 1754 = .ok (.lcmp, 1) := by decide +kernel
theorem dL_law_1755 : decode cL_law 1755 = .ok (.ifCond .eq 357, 3) := by decide +kernel
theorem dL_law_1758 : decode cL_law 1758 = .ok (.iconst 0, 1) := by decide +kernel
theorem dL_law_1759 : decode cL_law 1759 = .ok (.ireturn, 1) := by decide +kernel
theorem dL_law_1760 : decode cL_law 1760 = .ok (.aload_n 1, 1) := by decide +kernel
theorem dL_law_1761 : decode cL_law 1761 = .ok (.aload_n 0, 1) := by decide +kernel
theorem dL_law_1762 : decode cL_law 1762 = .ok (.iload_n 3, 1) := by decide +kernel
theorem dL_law_1763 : decode cL_law 1763 = .ok (.iconst 1, 1) := by decide +kernel
theorem dL_law_1764 : decode cL_law 1764 = .ok (.iadd, 1) := by decide +kernel
theorem dL_law_1765 : decode cL_law 1765 = .ok (.iaload, 1) := by decide +kernel
theorem dL_law_1766 : decode cL_law 1766 = .ok (.aload_n 0, 1) := by decide +kernel
theorem dL_law_1767 : decode cL_law 1767 = .ok (.iload_n 3, 1) := by decide +kernel
theorem dL_law_1768 : decode cL_law 1768 = .ok (.iconst 2, 1) := by decide +kernel
theorem dL_law_1769 : decode cL_law 1769 = .ok (.iadd, 1) := by decide +kernel
theorem dL_law_1770 : decode cL_law 1770 = .ok (.iaload, 1) := by decide +kernel
theorem dL_law_1771 : decode cL_law 1771 = .ok (.aload_n 0, 1) := by decide +kernel
theorem dL_law_1772 : decode cL_law 1772 = .ok (.iload_n 3, 1) := by decide +kernel
theorem dL_law_1773 : decode cL_law 1773 = .ok (.iconst 3, 1) := by decide +kernel
theorem dL_law_1774 : decode cL_law 1774 = .ok (.iadd, 1) := by decide +kernel
theorem dL_law_1775 : decode cL_law 1775 = .ok (.iaload, 1) := by decide +kernel
theorem dL_law_1776 : decode cL_law 1776 = .ok (.invokevirtual 179, 3) := by decide +kernel
theorem dL_law_1779 : decode cL_law 1779 = .ok (.aload_n 2, 1) := by decide +kernel
theorem dL_law_1780 : decode cL_law 1780 = .ok (.aload_n 0, 1) := by decide +kernel
theorem dL_law_1781 : decode cL_law 1781 = .ok (.iload_n 3, 1) := by decide +kernel
theorem dL_law_1782 : decode cL_law 1782 = .ok (.iconst 1, 1) := by decide +kernel
theorem dL_law_1783 : decode cL_law 1783 = .ok (.iadd, 1) := by decide +kernel
theorem dL_law_1784 : decode cL_law 1784 = .ok (.iaload, 1) := by decide +kernel
theorem dL_law_1785 : decode cL_law 1785 = .ok (.aload_n 0, 1) := by decide +kernel
theorem dL_law_1786 : decode cL_law 1786 = .ok (.iload_n 3, 1) := by decide +kernel
theorem dL_law_1787 : decode cL_law 1787 = .ok (.iconst 2, 1) := by decide +kernel
theorem dL_law_1788 : decode cL_law 1788 = .ok (.iadd, 1) := by decide +kernel
theorem dL_law_1789 : decode cL_law 1789 = .ok (.iaload, 1) := by decide +kernel
theorem dL_law_1790 : decode cL_law 1790 = .ok (.aload_n 0, 1) := by decide +kernel
theorem dL_law_1791 : decode cL_law 1791 = .ok (.iload_n 3, 1) := by decide +kernel
theorem dL_law_1792 : decode cL_law 1792 = .ok (.iconst 3, 1) := by decide +kernel
theorem dL_law_1793 : decode cL_law 1793 = .ok (.iadd, 1) := by decide +kernel
theorem dL_law_1794 : decode cL_law 1794 = .ok (.iaload, 1) := by decide +kernel
theorem dL_law_1795 : decode cL_law 1795 = .ok (.invokevirtual 182, 3) := by decide +kernel
theorem dL_law_1798 : decode cL_law 1798 = .ok (.if_icmp .eq 314, 3) := by decide +kernel
theorem dL_law_1801 : decode cL_law 1801 = .ok (.iconst 0, 1) := by decide +kernel
theorem dL_law_1802 : decode cL_law 1802 = .ok (.ireturn, 1) := by decide +kernel
theorem dL_law_1803 : decode cL_law 1803 = .ok (.aload_n 1, 1) := by decide +kernel
theorem dL_law_1804 : decode cL_law 1804 = .ok (.aload_n 0, 1) := by decide +kernel
theorem dL_law_1805 : decode cL_law 1805 = .ok (.iload_n 3, 1) := by decide +kernel
theorem dL_law_1806 : decode cL_law 1806 = .ok (.iconst 1, 1) := by decide +kernel
theorem dL_law_1807 : decode cL_law 1807 = .ok (.iadd, 1) := by decide +kernel
theorem dL_law_1808 : decode cL_law 1808 = .ok (.iaload, 1) := by decide +kernel
theorem dL_law_1809 : decode cL_law 1809 = .ok (.aload_n 0, 1) := by decide +kernel
theorem dL_law_1810 : decode cL_law 1810 = .ok (.iload_n 3, 1) := by decide +kernel
theorem dL_law_1811 : decode cL_law 1811 = .ok (.iconst 2, 1) := by decide +kernel
theorem dL_law_1812 : decode cL_law 1812 = .ok (.iadd, 1) := by decide +kernel
theorem dL_law_1813 : decode cL_law 1813 = .ok (.iaload, 1) := by decide +kernel
theorem dL_law_1814 : decode cL_law 1814 = .ok (.aload_n 0, 1) := by decide +kernel
theorem dL_law_1815 : decode cL_law 1815 = .ok (.iload_n 3, 1) := by decide +kernel
theorem dL_law_1816 : decode cL_law 1816 = .ok (.iconst 3, 1) := by decide +kernel
theorem dL_law_1817 : decode cL_law 1817 = .ok (.iadd, 1) := by decide +kernel
theorem dL_law_1818 : decode cL_law 1818 = .ok (.iaload, 1) := by decide +kernel
theorem dL_law_1819 : decode cL_law 1819 = .ok (.ifCond .eq 7, 3) := by decide +kernel
theorem dL_law_1822 : decode cL_law 1822 = .ok (.iconst 1, 1) := by decide +kernel
theorem dL_law_1823 : decode cL_law 1823 = .ok (.goto 4, 3) := by decide +kernel
theorem dL_law_1826 : decode cL_law 1826 = .ok (.iconst 0, 1) := by decide +kernel
theorem dL_law_1827 : decode cL_law 1827 = .ok (.invokevirtual 183, 3) := by decide +kernel
theorem dL_law_1830 : decode cL_law 1830 = .ok (.aload_n 2, 1) := by decide +kernel
theorem dL_law_1831 : decode cL_law 1831 = .ok (.aload_n 0, 1) := by decide +kernel
theorem dL_law_1832 : decode cL_law 1832 = .ok (.iload_n 3, 1) := by decide +kernel
theorem dL_law_1833 : decode cL_law 1833 = .ok (.iconst 1, 1) := by decide +kernel
theorem dL_law_1834 : decode cL_law 1834 = .ok (.iadd, 1) := by decide +kernel
theorem dL_law_1835 : decode cL_law 1835 = .ok (.iaload, 1) := by decide +kernel
theorem dL_law_1836 : decode cL_law 1836 = .ok (.aload_n 0, 1) := by decide +kernel
theorem dL_law_1837 : decode cL_law 1837 = .ok (.iload_n 3, 1) := by decide +kernel
theorem dL_law_1838 : decode cL_law 1838 = .ok (.iconst 2, 1) := by decide +kernel
theorem dL_law_1839 : decode cL_law 1839 = .ok (.iadd, 1) := by decide +kernel
theorem dL_law_1840 : decode cL_law 1840 = .ok (.iaload, 1) := by decide +kernel
theorem dL_law_1841 : decode cL_law 1841 = .ok (.aload_n 0, 1) := by decide +kernel
theorem dL_law_1842 : decode cL_law 1842 = .ok (.iload_n 3, 1) := by decide +kernel
theorem dL_law_1843 : decode cL_law 1843 = .ok (.iconst 3, 1) := by decide +kernel
theorem dL_law_1844 : decode cL_law 1844 = .ok (.iadd, 1) := by decide +kernel
theorem dL_law_1845 : decode cL_law 1845 = .ok (.iaload, 1) := by decide +kernel
theorem dL_law_1846 : decode cL_law 1846 = .ok (.ifCond .eq 7, 3) := by decide +kernel
theorem dL_law_1849 : decode cL_law 1849 = .ok (.iconst 1, 1) := by decide +kernel
theorem dL_law_1850 : decode cL_law 1850 = .ok (.goto 4, 3) := by decide +kernel
theorem dL_law_1853 : decode cL_law 1853 = .ok (.iconst 0, 1) := by decide +kernel
theorem dL_law_1854 : decode cL_law 1854 = .ok (.invokevirtual 187, 3) := by decide +kernel
theorem dL_law_1857 : decode cL_law 1857 = .ok (.if_icmp .eq 255, 3) := by decide +kernel
theorem dL_law_1860 : decode cL_law 1860 = .ok (.iconst 0, 1) := by decide +kernel
theorem dL_law_1861 : decode cL_law 1861 = .ok (.ireturn, 1) := by decide +kernel
theorem dL_law_1862 : decode cL_law 1862 = .ok (.aload_n 1, 1) := by decide +kernel
theorem dL_law_1863 : decode cL_law 1863 = .ok (.aload_n 0, 1) := by decide +kernel
theorem dL_law_1864 : decode cL_law 1864 = .ok (.iload_n 3, 1) := by decide +kernel
theorem dL_law_1865 : decode cL_law 1865 = .ok (.iconst 1, 1) := by decide +kernel
theorem dL_law_1866 : decode cL_law 1866 = .ok (.iadd, 1) := by decide +kernel
theorem dL_law_1867 : decode cL_law 1867 = .ok (.iaload, 1) := by decide +kernel
theorem dL_law_1868 : decode cL_law 1868 = .ok (.aload_n 0, 1) := by decide +kernel
theorem dL_law_1869 : decode cL_law 1869 = .ok (.iload_n 3, 1) := by decide +kernel
theorem dL_law_1870 : decode cL_law 1870 = .ok (.iconst 2, 1) := by decide +kernel
theorem dL_law_1871 : decode cL_law 1871 = .ok (.iadd, 1) := by decide +kernel
theorem dL_law_1872 : decode cL_law 1872 = .ok (.iaload, 1) := by decide +kernel
theorem dL_law_1873 : decode cL_law 1873 = .ok (.invokevirtual 188, 3) := by decide +kernel
theorem dL_law_1876 : decode cL_law 1876 = .ok (.aload_n 2, 1) := by decide +kernel
theorem dL_law_1877 : decode cL_law 1877 = .ok (.aload_n 0, 1) := by decide +kernel
theorem dL_law_1878 : decode cL_law 1878 = .ok (.iload_n 3, 1) := by decide +kernel
theorem dL_law_1879 : decode cL_law 1879 = .ok (.iconst 1, 1) := by decide +kernel
theorem dL_law_1880 : decode cL_law 1880 = .ok (.iadd, 1) := by decide +kernel
theorem dL_law_1881 : decode cL_law 1881 = .ok (.iaload, 1) := by decide +kernel
theorem dL_law_1882 : decode cL_law 1882 = .ok (.aload_n 0, 1) := by decide +kernel
theorem dL_law_1883 : decode cL_law 1883 = .ok (.iload_n 3, 1) := by decide +kernel
theorem dL_law_1884 : decode cL_law 1884 = .ok (.iconst 2, 1) := by decide +kernel
theorem dL_law_1885 : decode cL_law 1885 = .ok (.iadd, 1) := by decide +kernel
theorem dL_law_1886 : decode cL_law 1886 = .ok (.iaload, 1) := by decide +kernel
theorem dL_law_1887 : decode cL_law 1887 = .ok (.invokevirtual 191, 3) := by decide +kernel
theorem dL_law_1890 : decode cL_law 1890 = .ok (.if_icmp .eq 222, 3) := by decide +kernel
theorem dL_law_1893 : decode cL_law 1893 = .ok (.iconst 0, 1) := by decide +kernel
theorem dL_law_1894 : decode cL_law 1894 = .ok (.ireturn, 1) := by decide +kernel
theorem dL_law_1895 : decode cL_law 1895 = .ok (.aload_n 1, 1) := by decide +kernel
theorem dL_law_1896 : decode cL_law 1896 = .ok (.aload_n 0, 1) := by decide +kernel
theorem dL_law_1897 : decode cL_law 1897 = .ok (.iload_n 3, 1) := by decide +kernel
theorem dL_law_1898 : decode cL_law 1898 = .ok (.iconst 1, 1) := by decide +kernel
theorem dL_law_1899 : decode cL_law 1899 = .ok (.iadd, 1) := by decide +kernel
theorem dL_law_1900 : decode cL_law 1900 = .ok (.iaload, 1) := by decide +kernel
theorem dL_law_1901 : decode cL_law 1901 = .ok (.aload_n 0, 1) := by decide +kernel
theorem dL_law_1902 : decode cL_law 1902 = .ok (.iload_n 3, 1) := by decide +kernel
theorem dL_law_1903 : decode cL_law 1903 = .ok (.iconst 2, 1) := by decide +kernel
theorem dL_law_1904 : decode cL_law 1904 = .ok (.iadd, 1) := by decide +kernel
theorem dL_law_1905 : decode cL_law 1905 = .ok (.iaload, 1) := by decide +kernel
theorem dL_law_1906 : decode cL_law 1906 = .ok (.aload_n 0, 1) := by decide +kernel
theorem dL_law_1907 : decode cL_law 1907 = .ok (.iload_n 3, 1) := by decide +kernel
theorem dL_law_1908 : decode cL_law 1908 = .ok (.iconst 3, 1) := by decide +kernel
theorem dL_law_1909 : decode cL_law 1909 = .ok (.iadd, 1) := by decide +kernel
theorem dL_law_1910 : decode cL_law 1910 = .ok (.iaload, 1) := by decide +kernel
theorem dL_law_1911 : decode cL_law 1911 = .ok (.invokevirtual 192, 3) := by decide +kernel
theorem dL_law_1914 : decode cL_law 1914 = .ok (.aload_n 2, 1) := by decide +kernel
theorem dL_law_1915 : decode cL_law 1915 = .ok (.aload_n 0, 1) := by decide +kernel
theorem dL_law_1916 : decode cL_law 1916 = .ok (.iload_n 3, 1) := by decide +kernel
theorem dL_law_1917 : decode cL_law 1917 = .ok (.iconst 1, 1) := by decide +kernel
theorem dL_law_1918 : decode cL_law 1918 = .ok (.iadd, 1) := by decide +kernel
theorem dL_law_1919 : decode cL_law 1919 = .ok (.iaload, 1) := by decide +kernel
theorem dL_law_1920 : decode cL_law 1920 = .ok (.aload_n 0, 1) := by decide +kernel
theorem dL_law_1921 : decode cL_law 1921 = .ok (.iload_n 3, 1) := by decide +kernel
theorem dL_law_1922 : decode cL_law 1922 = .ok (.iconst 2, 1) := by decide +kernel
theorem dL_law_1923 : decode cL_law 1923 = .ok (.iadd, 1) := by decide +kernel
theorem dL_law_1924 : decode cL_law 1924 = .ok (.iaload, 1) := by decide +kernel
theorem dL_law_1925 : decode cL_law 1925 = .ok (.aload_n 0, 1) := by decide +kernel
theorem dL_law_1926 : decode cL_law 1926 = .ok (.iload_n 3, 1) := by decide +kernel
theorem dL_law_1927 : decode cL_law 1927 = .ok (.iconst 3, 1) := by decide +kernel
theorem dL_law_1928 : decode cL_law 1928 = .ok (.iadd, 1) := by decide +kernel
theorem dL_law_1929 : decode cL_law 1929 = .ok (.iaload, 1) := by decide +kernel
theorem dL_law_1930 : decode cL_law 1930 = .ok (.invokevirtual 195, 3) := by decide +kernel
theorem dL_law_1933 : decode cL_law 1933 = .ok (.if_icmp .eq 179, 3) := by decide +kernel
theorem dL_law_1936 : decode cL_law 1936 = .ok (.iconst 0, 1) := by decide +kernel
theorem dL_law_1937 : decode cL_law 1937 = .ok (.ireturn, 1) := by decide +kernel
theorem dL_law_1938 : decode cL_law 1938 = .ok (.aload_n 1, 1) := by decide +kernel
theorem dL_law_1939 : decode cL_law 1939 = .ok (.aload_n 0, 1) := by decide +kernel
theorem dL_law_1940 : decode cL_law 1940 = .ok (.iload_n 3, 1) := by decide +kernel
theorem dL_law_1941 : decode cL_law 1941 = .ok (.iconst 1, 1) := by decide +kernel
theorem dL_law_1942 : decode cL_law 1942 = .ok (.iadd, 1) := by decide +kernel
theorem dL_law_1943 : decode cL_law 1943 = .ok (.iaload, 1) := by decide +kernel
theorem dL_law_1944 : decode cL_law 1944 = .ok (.aload_n 0, 1) := by decide +kernel
theorem dL_law_1945 : decode cL_law 1945 = .ok (.iload_n 3, 1) := by decide +kernel
theorem dL_law_1946 : decode cL_law 1946 = .ok (.iconst 2, 1) := by decide +kernel
theorem dL_law_1947 : decode cL_law 1947 = .ok (.iadd, 1) := by decide +kernel
theorem dL_law_1948 : decode cL_law 1948 = .ok (.iaload, 1) := by decide +kernel
theorem dL_law_1949 : decode cL_law 1949 = .ok (.invokevirtual 196, 3) := by decide +kernel
theorem dL_law_1952 : decode cL_law 1952 = .ok (.aload_n 2, 1) := by decide +kernel
theorem dL_law_1953 : decode cL_law 1953 = .ok (.aload_n 0, 1) := by decide +kernel
theorem dL_law_1954 : decode cL_law 1954 = .ok (.iload_n 3, 1) := by decide +kernel
theorem dL_law_1955 : decode cL_law 1955 = .ok (.iconst 1, 1) := by decide +kernel
theorem dL_law_1956 : decode cL_law 1956 = .ok (.iadd, 1) := by decide +kernel
theorem dL_law_1957 : decode cL_law 1957 = .ok (.iaload, 1) := by decide +kernel
theorem dL_law_1958 : decode cL_law 1958 = .ok (.aload_n 0, 1) := by decide +kernel
theorem dL_law_1959 : decode cL_law 1959 = .ok (.iload_n 3, 1) := by decide +kernel
theorem dL_law_1960 : decode cL_law 1960 = .ok (.iconst 2, 1) := by decide +kernel
theorem dL_law_1961 : decode cL_law 1961 = .ok (.iadd, 1) := by decide +kernel
theorem dL_law_1962 : decode cL_law 1962 = .ok (.iaload, 1) := by decide +kernel
theorem dL_law_1963 : decode cL_law 1963 = .ok (.invokevirtual 199, 3) := by decide +kernel
theorem dL_law_1966 : decode cL_law 1966 = .ok (.if_icmp .eq 146, 3) := by decide +kernel
theorem dL_law_1969 : decode cL_law 1969 = .ok (.iconst 0, 1) := by decide +kernel
theorem dL_law_1970 : decode cL_law 1970 = .ok (.ireturn, 1) := by decide +kernel
theorem dL_law_1971 : decode cL_law 1971 = .ok (.aload_n 1, 1) := by decide +kernel
theorem dL_law_1972 : decode cL_law 1972 = .ok (.invokevirtual 200, 3) := by decide +kernel
theorem dL_law_1975 : decode cL_law 1975 = .ok (.aload_n 2, 1) := by decide +kernel
theorem dL_law_1976 : decode cL_law 1976 = .ok (.invokevirtual 203, 3) := by decide +kernel
theorem dL_law_1979 : decode cL_law 1979 = .ok (.if_icmp .eq 133, 3) := by decide +kernel
theorem dL_law_1982 : decode cL_law 1982 = .ok (.iconst 0, 1) := by decide +kernel
theorem dL_law_1983 : decode cL_law 1983 = .ok (.ireturn, 1) := by decide +kernel
theorem dL_law_1984 : decode cL_law 1984 = .ok (.aload_n 1, 1) := by decide +kernel
theorem dL_law_1985 : decode cL_law 1985 = .ok (.aload_n 0, 1) := by decide +kernel
theorem dL_law_1986 : decode cL_law 1986 = .ok (.iload_n 3, 1) := by decide +kernel
theorem dL_law_1987 : decode cL_law 1987 = .ok (.iconst 1, 1) := by decide +kernel
theorem dL_law_1988 : decode cL_law 1988 = .ok (.iadd, 1) := by decide +kernel
theorem dL_law_1989 : decode cL_law 1989 = .ok (.iaload, 1) := by decide +kernel
theorem dL_law_1990 : decode cL_law 1990 = .ok (.aload_n 0, 1) := by decide +kernel
theorem dL_law_1991 : decode cL_law 1991 = .ok (.iload_n 3, 1) := by decide +kernel
theorem dL_law_1992 : decode cL_law 1992 = .ok (.iconst 2, 1) := by decide +kernel
theorem dL_law_1993 : decode cL_law 1993 = .ok (.iadd, 1) := by decide +kernel
theorem dL_law_1994 : decode cL_law 1994 = .ok (.iaload, 1) := by decide +kernel
theorem dL_law_1995 : decode cL_law 1995 = .ok (.invokevirtual 204, 3) := by decide +kernel
theorem dL_law_1998 : decode cL_law 1998 = .ok (.aload_n 2, 1) := by decide +kernel
theorem dL_law_1999 : decode cL_law 1999 = .ok (.aload_n 0, 1) := by decide +kernel
theorem dL_law_2000 : decode cL_law 2000 = .ok (.iload_n 3, 1) := by decide +kernel
theorem dL_law_2001 : decode cL_law 2001 = .ok (.iconst 1, 1) := by decide +kernel
theorem dL_law_2002 : decode cL_law 2002 = .ok (.iadd, 1) := by decide +kernel
theorem dL_law_2003 : decode cL_law 2003 = .ok (.iaload, 1) := by decide +kernel
theorem dL_law_2004 : decode cL_law 2004 = .ok (.aload_n 0, 1) := by decide +kernel
theorem dL_law_2005 : decode cL_law 2005 = .ok (.iload_n 3, 1) := by decide +kernel
theorem dL_law_2006 : decode cL_law 2006 = .ok (.iconst 2, 1) := by decide +kernel
theorem dL_law_2007 : decode cL_law 2007 = .ok (.iadd, 1) := by decide +kernel
theorem dL_law_2008 : decode cL_law 2008 = .ok (.iaload, 1) := by decide +kernel
theorem dL_law_2009 : decode cL_law 2009 = .ok (.invokevirtual 207, 3) := by decide +kernel
theorem dL_law_2012 : decode cL_law 2012 = .ok (.if_icmp .eq 100, 3) := by decide +kernel
theorem dL_law_2015 : decode cL_law 2015 = .ok (.iconst 0, 1) := by decide +kernel
theorem dL_law_2016 : decode cL_law 2016 = .ok (.ireturn, 1) := by decide +kernel
theorem dL_law_2017 : decode cL_law 2017 = .ok (.aload_n 1, 1) := by decide +kernel
theorem dL_law_2018 : decode cL_law 2018 = .ok (.invokevirtual 208, 3) := by decide +kernel
theorem dL_law_2021 : decode cL_law 2021 = .ok (.aload_n 2, 1) := by decide +kernel
theorem dL_law_2022 : decode cL_law 2022 = .ok (.invokevirtual 211, 3) := by decide +kernel
theorem dL_law_2025 : decode cL_law 2025 = .ok (.if_icmp .eq 87, 3) := by decide +kernel
theorem dL_law_2028 : decode cL_law 2028 = .ok (.iconst 0, 1) := by decide +kernel
theorem dL_law_2029 : decode cL_law 2029 = .ok (.ireturn, 1) := by decide +kernel
theorem dL_law_2030 : decode cL_law 2030 = .ok (.aload_n 1, 1) := by decide +kernel
theorem dL_law_2031 : decode cL_law 2031 = .ok (.aload_n 0, 1) := by decide +kernel
theorem dL_law_2032 : decode cL_law 2032 = .ok (.iload_n 3, 1) := by decide +kernel
theorem dL_law_2033 : decode cL_law 2033 = .ok (.iconst 1, 1) := by decide +kernel
theorem dL_law_2034 : decode cL_law 2034 = .ok (.iadd, 1) := by decide +kernel
theorem dL_law_2035 : decode cL_law 2035 = .ok (.iaload, 1) := by decide +kernel
theorem dL_law_2036 : decode cL_law 2036 = .ok (.aload_n 0, 1) := by decide +kernel
theorem dL_law_2037 : decode cL_law 2037 = .ok (.iload_n 3, 1) := by decide +kernel
theorem dL_law_2038 : decode cL_law 2038 = .ok (.iconst 2, 1) := by decide +kernel
theorem dL_law_2039 : decode cL_law 2039 = .ok (.iadd, 1) := by decide +kernel
theorem dL_law_2040 : decode cL_law 2040 = .ok (.iaload, 1) := by decide +kernel
theorem dL_law_2041 : decode cL_law 2041 = .ok (.invokevirtual 212, 3) := by decide +kernel
theorem dL_law_2044 : decode cL_law 2044 = .ok (.aload_n 2, 1) := by decide +kernel
theorem dL_law_2045 : decode cL_law 2045 = .ok (.aload_n 0, 1) := by decide +kernel
theorem dL_law_2046 : decode cL_law 2046 = .ok (.iload_n 3, 1) := by decide +kernel
theorem dL_law_2047 : decode cL_law 2047 = .ok (.iconst 1, 1) := by decide +kernel
theorem dL_law_2048 : decode cL_law 2048 = .ok (.iadd, 1) := by decide +kernel
theorem dL_law_2049 : decode cL_law 2049 = .ok (.iaload, 1) := by decide +kernel
theorem dL_law_2050 : decode cL_law 2050 = .ok (.aload_n 0, 1) := by decide +kernel
theorem dL_law_2051 : decode cL_law 2051 = .ok (.iload_n 3, 1) := by decide +kernel
theorem dL_law_2052 : decode cL_law 2052 = .ok (.iconst 2, 1) := by decide +kernel
theorem dL_law_2053 : decode cL_law 2053 = .ok (.iadd, 1) := by decide +kernel
theorem dL_law_2054 : decode cL_law 2054 = .ok (.iaload, 1) := by decide +kernel
theorem dL_law_2055 : decode cL_law 2055 = .ok (.invokevirtual 215, 3) := by decide +kernel
theorem dL_law_2058 : decode cL_law 2058 = .ok (.if_icmp .eq 54, 3) := by decide +kernel
theorem dL_law_2061 : decode cL_law 2061 = .ok (.iconst 0, 1) := by decide +kernel
theorem dL_law_2062 : decode cL_law 2062 = .ok (.ireturn, 1) := by decide +kernel
theorem dL_law_2063 : decode cL_law 2063 = .ok (.aload_n 1, 1) := by decide +kernel
theorem dL_law_2064 : decode cL_law 2064 = .ok (.aload_n 0, 1) := by decide +kernel
theorem dL_law_2065 : decode cL_law 2065 = .ok (.iload_n 3, 1) := by decide +kernel
theorem dL_law_2066 : decode cL_law 2066 = .ok (.iconst 1, 1) := by decide +kernel
theorem dL_law_2067 : decode cL_law 2067 = .ok (.iadd, 1) := by decide +kernel
theorem dL_law_2068 : decode cL_law 2068 = .ok (.iaload, 1) := by decide +kernel
theorem dL_law_2069 : decode cL_law 2069 = .ok (.invokevirtual 216, 3) := by decide +kernel
theorem dL_law_2072 : decode cL_law 2072 = .ok (.aload_n 2, 1) := by decide +kernel
theorem dL_law_2073 : decode cL_law 2073 = .ok (.aload_n 0, 1) := by decide +kernel
theorem dL_law_2074 : decode cL_law 2074 = .ok (.iload_n 3, 1) := by decide +kernel
theorem dL_law_2075 : decode cL_law 2075 = .ok (.iconst 1, 1) := by decide +kernel
theorem dL_law_2076 : decode cL_law 2076 = .ok (.iadd, 1) := by decide +kernel
theorem dL_law_2077 : decode cL_law 2077 = .ok (.iaload, 1) := by decide +kernel
theorem dL_law_2078 : decode cL_law 2078 = .ok (.invokevirtual 219, 3) := by decide +kernel
theorem dL_law_2081 : decode cL_law 2081 = .ok (.if_icmp .eq 31, 3) := by decide +kernel
theorem dL_law_2084 : decode cL_law 2084 = .ok (.iconst 0, 1) := by decide +kernel
theorem dL_law_2085 : decode cL_law 2085 = .ok (.ireturn, 1) := by decide +kernel
theorem dL_law_2086 : decode cL_law 2086 = .ok (.aload_n 1, 1) := by decide +kernel
theorem dL_law_2087 : decode cL_law 2087 = .ok (.invokevirtual 220, 3) := by decide +kernel
theorem dL_law_2090 : decode cL_law 2090 = .ok (.aload_n 2, 1) := by decide +kernel
theorem dL_law_2091 : decode cL_law 2091 = .ok (.invokevirtual 223, 3) := by decide +kernel
theorem dL_law_2094 : decode cL_law 2094 = .ok (.if_icmp .eq 18, 3) := by decide +kernel
theorem dL_law_2097 : decode cL_law 2097 = .ok (.iconst 0, 1) := by decide +kernel
theorem dL_law_2098 : decode cL_law 2098 = .ok (.ireturn, 1) := by decide +kernel
theorem dL_law_2099 : decode cL_law 2099 = .ok (.aload_n 1, 1) := by decide +kernel
theorem dL_law_2100 : decode cL_law 2100 = .ok (.invokevirtual 224, 3) := by decide +kernel
theorem dL_law_2103 : decode cL_law 2103 = .ok (.aload_n 2, 1) := by decide +kernel
theorem dL_law_2104 : decode cL_law 2104 = .ok (.invokevirtual 227, 3) := by decide +kernel
theorem dL_law_2107 : decode cL_law 2107 = .ok (.if_icmp .eq 5, 3) := by decide +kernel
theorem dL_law_2110 : decode cL_law 2110 = .ok (.iconst 0, 1) := by decide +kernel
theorem dL_law_2111 : decode cL_law 2111 = .ok (.ireturn, 1) := by decide +kernel
theorem dL_law_2112 : decode cL_law 2112 = .ok (.iinc 3 6, 3) := by decide +kernel
theorem dL_law_2115 : decode cL_law 2115 = .ok (.goto (-2097), 3) := by decide +kernel
theorem dL_law_2118 : decode cL_law 2118 = .ok (.iconst 1, 1) := by decide +kernel
theorem dL_law_2119 : decode cL_law 2119 = .ok (.ireturn, 1) := by decide +kernel
