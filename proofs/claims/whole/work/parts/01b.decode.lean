theorem dX0_init_0 : decode cX0_init 0 = .ok (.aload_n 0, 1) := by decide +kernel
theorem dX0_init_1 : decode cX0_init 1 = .ok (.invokespecial 3, 3) := by decide +kernel
theorem dX0_init_4 : decode cX0_init 4 = .ok (.aload_n 0, 1) := by decide +kernel
theorem dX0_init_5 : decode cX0_init 5 = .ok (.new 9, 3) := by decide +kernel
theorem dX0_init_8 : decode cX0_init 8 = .ok (.dup, 1) := by decide +kernel
theorem dX0_init_9 : decode cX0_init 9 = .ok (.invokespecial 11, 3) := by decide +kernel
theorem dX0_init_12 : decode cX0_init 12 = .ok (.putfield 12, 3) := by decide +kernel
theorem dX0_init_15 : decode cX0_init 15 = .ok (.aload_n 0, 1) := by decide +kernel
theorem dX0_init_16 : decode cX0_init 16 = .ok (.iconst 0, 1) := by decide +kernel
theorem dX0_init_17 : decode cX0_init 17 = .ok (.putfield 18, 3) := by decide +kernel
theorem dX0_init_20 : decode cX0_init 20 = .ok (.aload_n 0, 1) := by decide +kernel
theorem dX0_init_21 : decode cX0_init 21 = .ok (.iconst 4, 1) := by decide +kernel
theorem dX0_init_22 : decode cX0_init 22 = .ok (.newarray .long, 2) := by decide +kernel
theorem dX0_init_24 : decode cX0_init 24 = .ok (.putfield 22, 3) := by decide +kernel
theorem dX0_init_27 : decode cX0_init 27 = .ok (.aload_n 0, 1) := by decide +kernel
theorem dX0_init_28 : decode cX0_init 28 = .ok (.iconst 3, 1) := by decide +kernel
theorem dX0_init_29 : decode cX0_init 29 = .ok (.newarray .long, 2) := by decide +kernel
theorem dX0_init_31 : decode cX0_init 31 = .ok (.putfield 26, 3) := by decide +kernel
theorem dX0_init_34 : decode cX0_init 34 = .ok (.return_, 1) := by decide +kernel
theorem dX0_begin_0 : decode cX0_begin 0 = .ok (.aload_n 0, 1) := by decide +kernel
theorem dX0_begin_1 : decode cX0_begin 1 = .ok (.aload_n 1, 1) := by decide +kernel
theorem dX0_begin_2 : decode cX0_begin 2 = .ok (.getfield 29, 3) := by decide +kernel
theorem dX0_begin_5 : decode cX0_begin 5 = .ok (.iconst 3, 1) := by decide +kernel
theorem dX0_begin_6 : decode cX0_begin 6 = .ok (.invokestatic 32, 3) := by decide +kernel
theorem dX0_begin_9 : decode cX0_begin 9 = .ok (.putfield 18, 3) := by decide +kernel
theorem dX0_begin_12 : decode cX0_begin 12 = .ok (.aload_n 0, 1) := by decide +kernel
theorem dX0_begin_13 : decode cX0_begin 13 = .ok (.getfield 12, 3) := by decide +kernel
theorem dX0_begin_16 : decode cX0_begin 16 = .ok (.aload_n 0, 1) := by decide +kernel
theorem dX0_begin_17 : decode cX0_begin 17 = .ok (.getfield 18, 3) := by decide +kernel
theorem dX0_begin_20 : decode cX0_begin 20 = .ok (.invokevirtual 38, 3) := by decide +kernel
theorem dX0_begin_23 : decode cX0_begin 23 = .ok (.iconst 0, 1) := by decide +kernel
theorem dX0_begin_24 : decode cX0_begin 24 = .ok (.istore_n 2, 1) := by decide +kernel
theorem dX0_begin_25 : decode cX0_begin 25 = .ok (.iload_n 2, 1) := by decide +kernel
theorem dX0_begin_26 : decode cX0_begin 26 = .ok (.aload_n 0, 1) := by decide +kernel
theorem dX0_begin_27 : decode cX0_begin 27 = .ok (.getfield 18, 3) := by decide +kernel
theorem dX0_begin_30 : decode cX0_begin 30 = .ok (.if_icmp .gt 21, 3) := by decide +kernel
theorem dX0_begin_33 : decode cX0_begin 33 = .ok (.aload_n 0, 1) := by decide +kernel
theorem dX0_begin_34 : decode cX0_begin 34 = .ok (.getfield 22, 3) := by decide +kernel
theorem dX0_begin_37 : decode cX0_begin 37 = .ok (.iload_n 2, 1) := by decide +kernel
theorem dX0_begin_38 : decode cX0_begin 38 = .ok (.aload_n 1, 1) := by decide +kernel
theorem dX0_begin_39 : decode cX0_begin 39 = .ok (.getfield 42, 3) := by decide +kernel
theorem dX0_begin_42 : decode cX0_begin 42 = .ok (.iload_n 2, 1) := by decide +kernel
theorem dX0_begin_43 : decode cX0_begin 43 = .ok (.laload, 1) := by decide +kernel
theorem dX0_begin_44 : decode cX0_begin 44 = .ok (.lastore, 1) := by decide +kernel
theorem dX0_begin_45 : decode cX0_begin 45 = .ok (.iinc 2 1, 3) := by decide +kernel
theorem dX0_begin_48 : decode cX0_begin 48 = .ok (.goto (-23), 3) := by decide +kernel
theorem dX0_begin_51 : decode cX0_begin 51 = .ok (.iconst 0, 1) := by decide +kernel
theorem dX0_begin_52 : decode cX0_begin 52 = .ok (.istore_n 2, 1) := by decide +kernel
theorem dX0_begin_53 : decode cX0_begin 53 = .ok (.iload_n 2, 1) := by decide +kernel
theorem dX0_begin_54 : decode cX0_begin 54 = .ok (.aload_n 0, 1) := by decide +kernel
theorem dX0_begin_55 : decode cX0_begin 55 = .ok (.getfield 18, 3) := by decide +kernel
theorem dX0_begin_58 : decode cX0_begin 58 = .ok (.if_icmp .ge 21, 3) := by decide +kernel
theorem dX0_begin_61 : decode cX0_begin 61 = .ok (.aload_n 0, 1) := by decide +kernel
theorem dX0_begin_62 : decode cX0_begin 62 = .ok (.getfield 26, 3) := by decide +kernel
theorem dX0_begin_65 : decode cX0_begin 65 = .ok (.iload_n 2, 1) := by decide +kernel
theorem dX0_begin_66 : decode cX0_begin 66 = .ok (.aload_n 1, 1) := by decide +kernel
theorem dX0_begin_67 : decode cX0_begin 67 = .ok (.getfield 43, 3) := by decide +kernel
theorem dX0_begin_70 : decode cX0_begin 70 = .ok (.iload_n 2, 1) := by decide +kernel
theorem dX0_begin_71 : decode cX0_begin 71 = .ok (.laload, 1) := by decide +kernel
theorem dX0_begin_72 : decode cX0_begin 72 = .ok (.lastore, 1) := by decide +kernel
theorem dX0_begin_73 : decode cX0_begin 73 = .ok (.iinc 2 1, 3) := by decide +kernel
theorem dX0_begin_76 : decode cX0_begin 76 = .ok (.goto (-23), 3) := by decide +kernel
theorem dX0_begin_79 : decode cX0_begin 79 = .ok (.return_, 1) := by decide +kernel
theorem dX0_codes_0 : decode cX0_codes 0 = .ok (.aload_n 0, 1) := by decide +kernel
theorem dX0_codes_1 : decode cX0_codes 1 = .ok (.getfield 18, 3) := by decide +kernel
theorem dX0_codes_4 : decode cX0_codes 4 = .ok (.iconst 3, 1) := by decide +kernel
theorem dX0_codes_5 : decode cX0_codes 5 = .ok (.if_icmp .ne 7, 3) := by decide +kernel
theorem dX0_codes_8 : decode cX0_codes 8 = .ok (.sipush 6084, 3) := by decide +kernel
theorem dX0_codes_11 : decode cX0_codes 11 = .ok (.ireturn, 1) := by decide +kernel
theorem dX0_codes_12 : decode cX0_codes 12 = .ok (.aload_n 0, 1) := by decide +kernel
theorem dX0_codes_13 : decode cX0_codes 13 = .ok (.getfield 18, 3) := by decide +kernel
theorem dX0_codes_16 : decode cX0_codes 16 = .ok (.iconst 2, 1) := by decide +kernel
theorem dX0_codes_17 : decode cX0_codes 17 = .ok (.if_icmp .ne 8, 3) := by decide +kernel
theorem dX0_codes_20 : decode cX0_codes 20 = .ok (.bipush 13, 2) := by decide +kernel
theorem dX0_codes_22 : decode cX0_codes 22 = .ok (.goto 4, 3) := by decide +kernel
theorem dX0_codes_25 : decode cX0_codes 25 = .ok (.iconst 1, 1) := by decide +kernel
theorem dX0_codes_26 : decode cX0_codes 26 = .ok (.ireturn, 1) := by decide +kernel
theorem dX0_makes_0 : decode cX0_makes 0 = .ok (.aload_n 0, 1) := by decide +kernel
theorem dX0_makes_1 : decode cX0_makes 1 = .ok (.getfield 18, 3) := by decide +kernel
theorem dX0_makes_4 : decode cX0_makes 4 = .ok (.iconst 1, 1) := by decide +kernel
theorem dX0_makes_5 : decode cX0_makes 5 = .ok (.if_icmp .ge 5, 3) := by decide +kernel
theorem dX0_makes_8 : decode cX0_makes 8 = .ok (.iconst 0, 1) := by decide +kernel
theorem dX0_makes_9 : decode cX0_makes 9 = .ok (.ireturn, 1) := by decide +kernel
theorem dX0_makes_10 : decode cX0_makes 10 = .ok (.aload_n 0, 1) := by decide +kernel
theorem dX0_makes_11 : decode cX0_makes 11 = .ok (.getfield 18, 3) := by decide +kernel
theorem dX0_makes_14 : decode cX0_makes 14 = .ok (.iconst 2, 1) := by decide +kernel
theorem dX0_makes_15 : decode cX0_makes 15 = .ok (.if_icmp .ne 16, 3) := by decide +kernel
theorem dX0_makes_18 : decode cX0_makes 18 = .ok (.aload_n 0, 1) := by decide +kernel
theorem dX0_makes_19 : decode cX0_makes 19 = .ok (.getfield 12, 3) := by decide +kernel
theorem dX0_makes_22 : decode cX0_makes 22 = .ok (.getfield 44, 3) := by decide +kernel
theorem dX0_makes_25 : decode cX0_makes 25 = .ok (.iconst 0, 1) := by decide +kernel
theorem dX0_makes_26 : decode cX0_makes 26 = .ok (.iload_n 1, 1) := by decide +kernel
theorem dX0_makes_27 : decode cX0_makes 27 = .ok (.bipush 6, 2) := by decide +kernel
theorem dX0_makes_29 : decode cX0_makes 29 = .ok (.isub, 1) := by decide +kernel
theorem dX0_makes_30 : decode cX0_makes 30 = .ok (.iastore, 1) := by decide +kernel
theorem dX0_makes_31 : decode cX0_makes 31 = .ok (.aload_n 0, 1) := by decide +kernel
theorem dX0_makes_32 : decode cX0_makes 32 = .ok (.getfield 18, 3) := by decide +kernel
theorem dX0_makes_35 : decode cX0_makes 35 = .ok (.iconst 3, 1) := by decide +kernel
theorem dX0_makes_36 : decode cX0_makes 36 = .ok (.if_icmp .ne 54, 3) := by decide +kernel
theorem dX0_makes_39 : decode cX0_makes 39 = .ok (.aload_n 0, 1) := by decide +kernel
theorem dX0_makes_40 : decode cX0_makes 40 = .ok (.getfield 12, 3) := by decide +kernel
theorem dX0_makes_43 : decode cX0_makes 43 = .ok (.getfield 44, 3) := by decide +kernel
theorem dX0_makes_46 : decode cX0_makes 46 = .ok (.iconst 0, 1) := by decide +kernel
theorem dX0_makes_47 : decode cX0_makes 47 = .ok (.iload_n 1, 1) := by decide +kernel
theorem dX0_makes_48 : decode cX0_makes 48 = .ok (.sipush 468, 3) := by decide +kernel
theorem dX0_makes_51 : decode cX0_makes 51 = .ok (.idiv, 1) := by decide +kernel
theorem dX0_makes_52 : decode cX0_makes 52 = .ok (.bipush 6, 2) := by decide +kernel
theorem dX0_makes_54 : decode cX0_makes 54 = .ok (.isub, 1) := by decide +kernel
theorem dX0_makes_55 : decode cX0_makes 55 = .ok (.iastore, 1) := by decide +kernel
theorem dX0_makes_56 : decode cX0_makes 56 = .ok (.aload_n 0, 1) := by decide +kernel
theorem dX0_makes_57 : decode cX0_makes 57 = .ok (.getfield 12, 3) := by decide +kernel
theorem dX0_makes_60 : decode cX0_makes 60 = .ok (.getfield 44, 3) := by decide +kernel
theorem dX0_makes_63 : decode cX0_makes 63 = .ok (.iconst 1, 1) := by decide +kernel
theorem dX0_makes_64 : decode cX0_makes 64 = .ok (.iload_n 1, 1) := by decide +kernel
theorem dX0_makes_65 : decode cX0_makes 65 = .ok (.bipush 36, 2) := by decide +kernel
theorem dX0_makes_67 : decode cX0_makes 67 = .ok (.idiv, 1) := by decide +kernel
theorem dX0_makes_68 : decode cX0_makes 68 = .ok (.bipush 13, 2) := by decide +kernel
theorem dX0_makes_70 : decode cX0_makes 70 = .ok (.irem, 1) := by decide +kernel
theorem dX0_makes_71 : decode cX0_makes 71 = .ok (.bipush 6, 2) := by decide +kernel
theorem dX0_makes_73 : decode cX0_makes 73 = .ok (.isub, 1) := by decide +kernel
theorem dX0_makes_74 : decode cX0_makes 74 = .ok (.iastore, 1) := by decide +kernel
theorem dX0_makes_75 : decode cX0_makes 75 = .ok (.aload_n 0, 1) := by decide +kernel
theorem dX0_makes_76 : decode cX0_makes 76 = .ok (.getfield 12, 3) := by decide +kernel
theorem dX0_makes_79 : decode cX0_makes 79 = .ok (.getfield 48, 3) := by decide +kernel
theorem dX0_makes_82 : decode cX0_makes 82 = .ok (.iconst 0, 1) := by decide +kernel
theorem dX0_makes_83 : decode cX0_makes 83 = .ok (.iload_n 1, 1) := by decide +kernel
theorem dX0_makes_84 : decode cX0_makes 84 = .ok (.bipush 36, 2) := by decide +kernel
theorem dX0_makes_86 : decode cX0_makes 86 = .ok (.irem, 1) := by decide +kernel
theorem dX0_makes_87 : decode cX0_makes 87 = .ok (.iconst 1, 1) := by decide +kernel
theorem dX0_makes_88 : decode cX0_makes 88 = .ok (.iadd, 1) := by decide +kernel
theorem dX0_makes_89 : decode cX0_makes 89 = .ok (.iastore, 1) := by decide +kernel
theorem dX0_makes_90 : decode cX0_makes 90 = .ok (.aload_n 0, 1) := by decide +kernel
theorem dX0_makes_91 : decode cX0_makes 91 = .ok (.invokevirtual 51, 3) := by decide +kernel
theorem dX0_makes_94 : decode cX0_makes 94 = .ok (.ifCond .eq 38, 3) := by decide +kernel
theorem dX0_makes_97 : decode cX0_makes 97 = .ok (.aload_n 0, 1) := by decide +kernel
theorem dX0_makes_98 : decode cX0_makes 98 = .ok (.invokevirtual 55, 3) := by decide +kernel
theorem dX0_makes_101 : decode cX0_makes 101 = .ok (.ifCond .eq 31, 3) := by decide +kernel
theorem dX0_makes_104 : decode cX0_makes 104 = .ok (.aload_n 0, 1) := by decide +kernel
theorem dX0_makes_105 : decode cX0_makes 105 = .ok (.getfield 12, 3) := by decide +kernel
theorem dX0_makes_108 : decode cX0_makes 108 = .ok (.iconst 0, 1) := by decide +kernel
theorem dX0_makes_109 : decode cX0_makes 109 = .ok (.aload_n 0, 1) := by decide +kernel
theorem dX0_makes_110 : decode cX0_makes 110 = .ok (.getfield 18, 3) := by decide +kernel
theorem dX0_makes_113 : decode cX0_makes 113 = .ok (.iconst 0, 1) := by decide +kernel
theorem dX0_makes_114 : decode cX0_makes 114 = .ok (.iconst 1, 1) := by decide +kernel
theorem dX0_makes_115 : decode cX0_makes 115 = .ok (.invokevirtual 58, 3) := by decide +kernel
theorem dX0_makes_118 : decode cX0_makes 118 = .ok (.aload_n 0, 1) := by decide +kernel
theorem dX0_makes_119 : decode cX0_makes 119 = .ok (.getfield 22, 3) := by decide +kernel
theorem dX0_makes_122 : decode cX0_makes 122 = .ok (.iconst 0, 1) := by decide +kernel
theorem dX0_makes_123 : decode cX0_makes 123 = .ok (.laload, 1) := by decide +kernel
theorem dX0_makes_124 : decode cX0_makes 124 = .ok (.lcmp, 1) := by decide +kernel
theorem dX0_makes_125 : decode cX0_makes 125 = .ok (.ifCond .ne 7, 3) := by decide +kernel
theorem dX0_makes_128 : decode cX0_makes 128 = .ok (.iconst 1, 1) := by decide +kernel
theorem dX0_makes_129 : decode cX0_makes 129 = .ok (.goto 4, 3) := by decide +kernel
theorem dX0_makes_132 : decode cX0_makes 132 = .ok (.iconst 0, 1) := by decide +kernel
theorem dX0_makes_133 : decode cX0_makes 133 = .ok (.ireturn, 1) := by decide +kernel
theorem dX0_setLastA_0 : decode cX0_setLastA 0 = .ok (.aload_n 0, 1) := by decide +kernel
theorem dX0_setLastA_1 : decode cX0_setLastA 1 = .ok (.getfield 22, 3) := by decide +kernel
theorem dX0_setLastA_4 : decode cX0_setLastA 4 = .ok (.aload_n 0, 1) := by decide +kernel
theorem dX0_setLastA_5 : decode cX0_setLastA 5 = .ok (.getfield 18, 3) := by decide +kernel
theorem dX0_setLastA_8 : decode cX0_setLastA 8 = .ok (.iconst 1, 1) := by decide +kernel
theorem dX0_setLastA_9 : decode cX0_setLastA 9 = .ok (.isub, 1) := by decide +kernel
theorem dX0_setLastA_10 : decode cX0_setLastA 10 = .ok (.laload, 1) := by decide +kernel
theorem dX0_setLastA_11 : decode cX0_setLastA 11 = .ok (.lneg, 1) := by decide +kernel
theorem dX0_setLastA_12 : decode cX0_setLastA 12 = .ok (.lstore_n 1, 1) := by decide +kernel
theorem dX0_setLastA_13 : decode cX0_setLastA 13 = .ok (.iconst 0, 1) := by decide +kernel
theorem dX0_setLastA_14 : decode cX0_setLastA 14 = .ok (.istore_n 3, 1) := by decide +kernel
theorem dX0_setLastA_15 : decode cX0_setLastA 15 = .ok (.iload_n 3, 1) := by decide +kernel
theorem dX0_setLastA_16 : decode cX0_setLastA 16 = .ok (.aload_n 0, 1) := by decide +kernel
theorem dX0_setLastA_17 : decode cX0_setLastA 17 = .ok (.getfield 18, 3) := by decide +kernel
theorem dX0_setLastA_20 : decode cX0_setLastA 20 = .ok (.iconst 1, 1) := by decide +kernel
theorem dX0_setLastA_21 : decode cX0_setLastA 21 = .ok (.isub, 1) := by decide +kernel
theorem dX0_setLastA_22 : decode cX0_setLastA 22 = .ok (.if_icmp .ge 22, 3) := by decide +kernel
theorem dX0_setLastA_25 : decode cX0_setLastA 25 = .ok (.lload_n 1, 1) := by decide +kernel
theorem dX0_setLastA_26 : decode cX0_setLastA 26 = .ok (.aload_n 0, 1) := by decide +kernel
theorem dX0_setLastA_27 : decode cX0_setLastA 27 = .ok (.getfield 12, 3) := by decide +kernel
theorem dX0_setLastA_30 : decode cX0_setLastA 30 = .ok (.getfield 44, 3) := by decide +kernel
theorem dX0_setLastA_33 : decode cX0_setLastA 33 = .ok (.iload_n 3, 1) := by decide +kernel
theorem dX0_setLastA_34 : decode cX0_setLastA 34 = .ok (.iaload, 1) := by decide +kernel
theorem dX0_setLastA_35 : decode cX0_setLastA 35 = .ok (.i2l, 1) := by decide +kernel
theorem dX0_setLastA_36 : decode cX0_setLastA 36 = .ok (.lsub, 1) := by decide +kernel
theorem dX0_setLastA_37 : decode cX0_setLastA 37 = .ok (.lstore_n 1, 1) := by decide +kernel
theorem dX0_setLastA_38 : decode cX0_setLastA 38 = .ok (.iinc 3 1, 3) := by decide +kernel
theorem dX0_setLastA_41 : decode cX0_setLastA 41 = .ok (.goto (-26), 3) := by decide +kernel
theorem dX0_setLastA_44 : decode cX0_setLastA 44 = .ok (.lload_n 1, 1) := by decide +kernel
theorem dX0_setLastA_45 : decode cX0_setLastA 45 = .ok (.ldc2_w 62, 3) := by decide +kernel
theorem dX0_setLastA_48 : decode cX0_setLastA 48 = .ok (.lcmp, 1) := by decide +kernel
theorem dX0_setLastA_49 : decode cX0_setLastA 49 = .ok (.ifCond .lt 11, 3) := by decide +kernel
theorem dX0_setLastA_52 : decode cX0_setLastA 52 = .ok (.lload_n 1, 1) := by decide +kernel
theorem dX0_setLastA_53 : decode cX0_setLastA 53 = .ok (.ldc2_w 64, 3) := by decide +kernel
theorem dX0_setLastA_56 : decode cX0_setLastA 56 = .ok (.lcmp, 1) := by decide +kernel
theorem dX0_setLastA_57 : decode cX0_setLastA 57 = .ok (.ifCond .le 5, 3) := by decide +kernel
theorem dX0_setLastA_60 : decode cX0_setLastA 60 = .ok (.iconst 0, 1) := by decide +kernel
theorem dX0_setLastA_61 : decode cX0_setLastA 61 = .ok (.ireturn, 1) := by decide +kernel
theorem dX0_setLastA_62 : decode cX0_setLastA 62 = .ok (.aload_n 0, 1) := by decide +kernel
theorem dX0_setLastA_63 : decode cX0_setLastA 63 = .ok (.getfield 12, 3) := by decide +kernel
theorem dX0_setLastA_66 : decode cX0_setLastA 66 = .ok (.getfield 44, 3) := by decide +kernel
theorem dX0_setLastA_69 : decode cX0_setLastA 69 = .ok (.aload_n 0, 1) := by decide +kernel
theorem dX0_setLastA_70 : decode cX0_setLastA 70 = .ok (.getfield 18, 3) := by decide +kernel
theorem dX0_setLastA_73 : decode cX0_setLastA 73 = .ok (.iconst 1, 1) := by decide +kernel
theorem dX0_setLastA_74 : decode cX0_setLastA 74 = .ok (.isub, 1) := by decide +kernel
theorem dX0_setLastA_75 : decode cX0_setLastA 75 = .ok (.lload_n 1, 1) := by decide +kernel
theorem dX0_setLastA_76 : decode cX0_setLastA 76 = .ok (.l2i, 1) := by decide +kernel
theorem dX0_setLastA_77 : decode cX0_setLastA 77 = .ok (.iastore, 1) := by decide +kernel
theorem dX0_setLastA_78 : decode cX0_setLastA 78 = .ok (.iconst 1, 1) := by decide +kernel
theorem dX0_setLastA_79 : decode cX0_setLastA 79 = .ok (.ireturn, 1) := by decide +kernel
theorem dX0_setLastC_0 : decode cX0_setLastC 0 = .ok (.aload_n 0, 1) := by decide +kernel
theorem dX0_setLastC_1 : decode cX0_setLastC 1 = .ok (.getfield 18, 3) := by decide +kernel
theorem dX0_setLastC_4 : decode cX0_setLastC 4 = .ok (.iconst 2, 1) := by decide +kernel
theorem dX0_setLastC_5 : decode cX0_setLastC 5 = .ok (.if_icmp .ge 5, 3) := by decide +kernel
theorem dX0_setLastC_8 : decode cX0_setLastC 8 = .ok (.iconst 1, 1) := by decide +kernel
theorem dX0_setLastC_9 : decode cX0_setLastC 9 = .ok (.ireturn, 1) := by decide +kernel
theorem dX0_setLastC_10 : decode cX0_setLastC 10 = .ok (.aload_n 0, 1) := by decide +kernel
theorem dX0_setLastC_11 : decode cX0_setLastC 11 = .ok (.getfield 22, 3) := by decide +kernel
theorem dX0_setLastC_14 : decode cX0_setLastC 14 = .ok (.aload_n 0, 1) := by decide +kernel
theorem dX0_setLastC_15 : decode cX0_setLastC 15 = .ok (.getfield 18, 3) := by decide +kernel
theorem dX0_setLastC_18 : decode cX0_setLastC 18 = .ok (.iconst 2, 1) := by decide +kernel
theorem dX0_setLastC_19 : decode cX0_setLastC 19 = .ok (.isub, 1) := by decide +kernel
theorem dX0_setLastC_20 : decode cX0_setLastC 20 = .ok (.laload, 1) := by decide +kernel
theorem dX0_setLastC_21 : decode cX0_setLastC 21 = .ok (.lneg, 1) := by decide +kernel
theorem dX0_setLastC_22 : decode cX0_setLastC 22 = .ok (.lstore_n 1, 1) := by decide +kernel
theorem dX0_setLastC_23 : decode cX0_setLastC 23 = .ok (.iconst 0, 1) := by decide +kernel
theorem dX0_setLastC_24 : decode cX0_setLastC 24 = .ok (.istore_n 3, 1) := by decide +kernel
theorem dX0_setLastC_25 : decode cX0_setLastC 25 = .ok (.iload_n 3, 1) := by decide +kernel
theorem dX0_setLastC_26 : decode cX0_setLastC 26 = .ok (.aload_n 0, 1) := by decide +kernel
theorem dX0_setLastC_27 : decode cX0_setLastC 27 = .ok (.getfield 18, 3) := by decide +kernel
theorem dX0_setLastC_30 : decode cX0_setLastC 30 = .ok (.if_icmp .ge 48, 3) := by decide +kernel
theorem dX0_setLastC_33 : decode cX0_setLastC 33 = .ok (.iconst 0, 1) := by decide +kernel
theorem dX0_setLastC_34 : decode cX0_setLastC 34 = .ok (.istore 4, 2) := by decide +kernel
theorem dX0_setLastC_36 : decode cX0_setLastC 36 = .ok (.iload 4, 2) := by decide +kernel
theorem dX0_setLastC_38 : decode cX0_setLastC 38 = .ok (.iload_n 3, 1) := by decide +kernel
theorem dX0_setLastC_39 : decode cX0_setLastC 39 = .ok (.if_icmp .ge 33, 3) := by decide +kernel
theorem dX0_setLastC_42 : decode cX0_setLastC 42 = .ok (.lload_n 1, 1) := by decide +kernel
theorem dX0_setLastC_43 : decode cX0_setLastC 43 = .ok (.aload_n 0, 1) := by decide +kernel
theorem dX0_setLastC_44 : decode cX0_setLastC 44 = .ok (.getfield 12, 3) := by decide +kernel
theorem dX0_setLastC_47 : decode cX0_setLastC 47 = .ok (.getfield 44, 3) := by decide +kernel
theorem dX0_setLastC_50 : decode cX0_setLastC 50 = .ok (.iload_n 3, 1) := by decide +kernel
theorem dX0_setLastC_51 : decode cX0_setLastC 51 = .ok (.iaload, 1) := by decide +kernel
theorem dX0_setLastC_52 : decode cX0_setLastC 52 = .ok (.aload_n 0, 1) := by decide +kernel
theorem dX0_setLastC_53 : decode cX0_setLastC 53 = .ok (.getfield 12, 3) := by decide +kernel
theorem dX0_setLastC_56 : decode cX0_setLastC 56 = .ok (.getfield 44, 3) := by decide +kernel
theorem dX0_setLastC_59 : decode cX0_setLastC 59 = .ok (.iload 4, 2) := by decide +kernel
theorem dX0_setLastC_61 : decode cX0_setLastC 61 = .ok (.iaload, 1) := by decide +kernel
theorem dX0_setLastC_62 : decode cX0_setLastC 62 = .ok (.imul, 1) := by decide +kernel
theorem dX0_setLastC_63 : decode cX0_setLastC 63 = .ok (.i2l, 1) := by decide +kernel
theorem dX0_setLastC_64 : decode cX0_setLastC 64 = .ok (.ladd, 1) := by decide +kernel
theorem dX0_setLastC_65 : decode cX0_setLastC 65 = .ok (.lstore_n 1, 1) := by decide +kernel
theorem dX0_setLastC_66 : decode cX0_setLastC 66 = .ok (.iinc 4 1, 3) := by decide +kernel
theorem dX0_setLastC_69 : decode cX0_setLastC 69 = .ok (.goto (-33), 3) := by decide +kernel
theorem dX0_setLastC_72 : decode cX0_setLastC 72 = .ok (.iinc 3 1, 3) := by decide +kernel
theorem dX0_setLastC_75 : decode cX0_setLastC 75 = .ok (.goto (-50), 3) := by decide +kernel
theorem dX0_setLastC_78 : decode cX0_setLastC 78 = .ok (.iconst 0, 1) := by decide +kernel
theorem dX0_setLastC_79 : decode cX0_setLastC 79 = .ok (.istore_n 3, 1) := by decide +kernel
theorem dX0_setLastC_80 : decode cX0_setLastC 80 = .ok (.iload_n 3, 1) := by decide +kernel
theorem dX0_setLastC_81 : decode cX0_setLastC 81 = .ok (.aload_n 0, 1) := by decide +kernel
theorem dX0_setLastC_82 : decode cX0_setLastC 82 = .ok (.getfield 18, 3) := by decide +kernel
theorem dX0_setLastC_85 : decode cX0_setLastC 85 = .ok (.iconst 2, 1) := by decide +kernel
theorem dX0_setLastC_86 : decode cX0_setLastC 86 = .ok (.isub, 1) := by decide +kernel
theorem dX0_setLastC_87 : decode cX0_setLastC 87 = .ok (.if_icmp .ge 22, 3) := by decide +kernel
theorem dX0_setLastC_90 : decode cX0_setLastC 90 = .ok (.lload_n 1, 1) := by decide +kernel
theorem dX0_setLastC_91 : decode cX0_setLastC 91 = .ok (.aload_n 0, 1) := by decide +kernel
theorem dX0_setLastC_92 : decode cX0_setLastC 92 = .ok (.getfield 12, 3) := by decide +kernel
theorem dX0_setLastC_95 : decode cX0_setLastC 95 = .ok (.getfield 48, 3) := by decide +kernel
theorem dX0_setLastC_98 : decode cX0_setLastC 98 = .ok (.iload_n 3, 1) := by decide +kernel
theorem dX0_setLastC_99 : decode cX0_setLastC 99 = .ok (.iaload, 1) := by decide +kernel
theorem dX0_setLastC_100 : decode cX0_setLastC 100 = .ok (.i2l, 1) := by decide +kernel
theorem dX0_setLastC_101 : decode cX0_setLastC 101 = .ok (.lsub, 1) := by decide +kernel
theorem dX0_setLastC_102 : decode cX0_setLastC 102 = .ok (.lstore_n 1, 1) := by decide +kernel
theorem dX0_setLastC_103 : decode cX0_setLastC 103 = .ok (.iinc 3 1, 3) := by decide +kernel
theorem dX0_setLastC_106 : decode cX0_setLastC 106 = .ok (.goto (-26), 3) := by decide +kernel
theorem dX0_setLastC_109 : decode cX0_setLastC 109 = .ok (.lload_n 1, 1) := by decide +kernel
theorem dX0_setLastC_110 : decode cX0_setLastC 110 = .ok (.lconst 1, 1) := by decide +kernel
theorem dX0_setLastC_111 : decode cX0_setLastC 111 = .ok (.lcmp, 1) := by decide +kernel
theorem dX0_setLastC_112 : decode cX0_setLastC 112 = .ok (.ifCond .lt 11, 3) := by decide +kernel
theorem dX0_setLastC_115 : decode cX0_setLastC 115 = .ok (.lload_n 1, 1) := by decide +kernel
theorem dX0_setLastC_116 : decode cX0_setLastC 116 = .ok (.ldc2_w 66, 3) := by decide +kernel
theorem dX0_setLastC_119 : decode cX0_setLastC 119 = .ok (.lcmp, 1) := by decide +kernel
theorem dX0_setLastC_120 : decode cX0_setLastC 120 = .ok (.ifCond .le 5, 3) := by decide +kernel
theorem dX0_setLastC_123 : decode cX0_setLastC 123 = .ok (.iconst 0, 1) := by decide +kernel
theorem dX0_setLastC_124 : decode cX0_setLastC 124 = .ok (.ireturn, 1) := by decide +kernel
theorem dX0_setLastC_125 : decode cX0_setLastC 125 = .ok (.aload_n 0, 1) := by decide +kernel
theorem dX0_setLastC_126 : decode cX0_setLastC 126 = .ok (.getfield 12, 3) := by decide +kernel
theorem dX0_setLastC_129 : decode cX0_setLastC 129 = .ok (.getfield 48, 3) := by decide +kernel
theorem dX0_setLastC_132 : decode cX0_setLastC 132 = .ok (.aload_n 0, 1) := by decide +kernel
theorem dX0_setLastC_133 : decode cX0_setLastC 133 = .ok (.getfield 18, 3) := by decide +kernel
theorem dX0_setLastC_136 : decode cX0_setLastC 136 = .ok (.iconst 2, 1) := by decide +kernel
theorem dX0_setLastC_137 : decode cX0_setLastC 137 = .ok (.isub, 1) := by decide +kernel
theorem dX0_setLastC_138 : decode cX0_setLastC 138 = .ok (.lload_n 1, 1) := by decide +kernel
theorem dX0_setLastC_139 : decode cX0_setLastC 139 = .ok (.l2i, 1) := by decide +kernel
theorem dX0_setLastC_140 : decode cX0_setLastC 140 = .ok (.iastore, 1) := by decide +kernel
theorem dX0_setLastC_141 : decode cX0_setLastC 141 = .ok (.iconst 1, 1) := by decide +kernel
theorem dX0_setLastC_142 : decode cX0_setLastC 142 = .ok (.ireturn, 1) := by decide +kernel
theorem dX0_madeMeets_0 : decode cX0_madeMeets 0 = .ok (.iload_n 1, 1) := by decide +kernel
theorem dX0_madeMeets_1 : decode cX0_madeMeets 1 = .ok (.tableswitch 112 0 4 #[35, 47, 66, 93, 107], 35) := by decide +kernel
theorem dX0_madeMeets_36 : decode cX0_madeMeets 36 = .ok (.aload_n 0, 1) := by decide +kernel
theorem dX0_madeMeets_37 : decode cX0_madeMeets 37 = .ok (.getfield 12, 3) := by decide +kernel
theorem dX0_madeMeets_40 : decode cX0_madeMeets 40 = .ok (.aload_n 0, 1) := by decide +kernel
theorem dX0_madeMeets_41 : decode cX0_madeMeets 41 = .ok (.getfield 12, 3) := by decide +kernel
theorem dX0_madeMeets_44 : decode cX0_madeMeets 44 = .ok (.invokevirtual 68, 3) := by decide +kernel
theorem dX0_madeMeets_47 : decode cX0_madeMeets 47 = .ok (.ireturn, 1) := by decide +kernel
theorem dX0_madeMeets_48 : decode cX0_madeMeets 48 = .ok (.aload_n 0, 1) := by decide +kernel
theorem dX0_madeMeets_49 : decode cX0_madeMeets 49 = .ok (.getfield 12, 3) := by decide +kernel
theorem dX0_madeMeets_52 : decode cX0_madeMeets 52 = .ok (.getfield 44, 3) := by decide +kernel
theorem dX0_madeMeets_55 : decode cX0_madeMeets 55 = .ok (.iconst 0, 1) := by decide +kernel
theorem dX0_madeMeets_56 : decode cX0_madeMeets 56 = .ok (.iaload, 1) := by decide +kernel
theorem dX0_madeMeets_57 : decode cX0_madeMeets 57 = .ok (.iload_n 2, 1) := by decide +kernel
theorem dX0_madeMeets_58 : decode cX0_madeMeets 58 = .ok (.if_icmp .ne 7, 3) := by decide +kernel
theorem dX0_madeMeets_61 : decode cX0_madeMeets 61 = .ok (.iconst 1, 1) := by decide +kernel
theorem dX0_madeMeets_62 : decode cX0_madeMeets 62 = .ok (.goto 4, 3) := by decide +kernel
theorem dX0_madeMeets_65 : decode cX0_madeMeets 65 = .ok (.iconst 0, 1) := by decide +kernel
theorem dX0_madeMeets_66 : decode cX0_madeMeets 66 = .ok (.ireturn, 1) := by decide +kernel
theorem dX0_madeMeets_67 : decode cX0_madeMeets 67 = .ok (.aload_n 0, 1) := by decide +kernel
theorem dX0_madeMeets_68 : decode cX0_madeMeets 68 = .ok (.getfield 18, 3) := by decide +kernel
theorem dX0_madeMeets_71 : decode cX0_madeMeets 71 = .ok (.iconst 1, 1) := by decide +kernel
theorem dX0_madeMeets_72 : decode cX0_madeMeets 72 = .ok (.if_icmp .le 20, 3) := by decide +kernel
theorem dX0_madeMeets_75 : decode cX0_madeMeets 75 = .ok (.aload_n 0, 1) := by decide +kernel
theorem dX0_madeMeets_76 : decode cX0_madeMeets 76 = .ok (.getfield 12, 3) := by decide +kernel
theorem dX0_madeMeets_79 : decode cX0_madeMeets 79 = .ok (.getfield 48, 3) := by decide +kernel
theorem dX0_madeMeets_82 : decode cX0_madeMeets 82 = .ok (.iconst 0, 1) := by decide +kernel
theorem dX0_madeMeets_83 : decode cX0_madeMeets 83 = .ok (.iaload, 1) := by decide +kernel
theorem dX0_madeMeets_84 : decode cX0_madeMeets 84 = .ok (.iload_n 2, 1) := by decide +kernel
theorem dX0_madeMeets_85 : decode cX0_madeMeets 85 = .ok (.if_icmp .ne 7, 3) := by decide +kernel
theorem dX0_madeMeets_88 : decode cX0_madeMeets 88 = .ok (.iconst 1, 1) := by decide +kernel
theorem dX0_madeMeets_89 : decode cX0_madeMeets 89 = .ok (.goto 4, 3) := by decide +kernel
theorem dX0_madeMeets_92 : decode cX0_madeMeets 92 = .ok (.iconst 0, 1) := by decide +kernel
theorem dX0_madeMeets_93 : decode cX0_madeMeets 93 = .ok (.ireturn, 1) := by decide +kernel
theorem dX0_madeMeets_94 : decode cX0_madeMeets 94 = .ok (.aload_n 0, 1) := by decide +kernel
theorem dX0_madeMeets_95 : decode cX0_madeMeets 95 = .ok (.getfield 12, 3) := by decide +kernel
theorem dX0_madeMeets_98 : decode cX0_madeMeets 98 = .ok (.aload_n 0, 1) := by decide +kernel
theorem dX0_madeMeets_99 : decode cX0_madeMeets 99 = .ok (.getfield 18, 3) := by decide +kernel
theorem dX0_madeMeets_102 : decode cX0_madeMeets 102 = .ok (.iconst 1, 1) := by decide +kernel
theorem dX0_madeMeets_103 : decode cX0_madeMeets 103 = .ok (.isub, 1) := by decide +kernel
theorem dX0_madeMeets_104 : decode cX0_madeMeets 104 = .ok (.invokevirtual 72, 3) := by decide +kernel
theorem dX0_madeMeets_107 : decode cX0_madeMeets 107 = .ok (.ireturn, 1) := by decide +kernel
theorem dX0_madeMeets_108 : decode cX0_madeMeets 108 = .ok (.aload_n 0, 1) := by decide +kernel
theorem dX0_madeMeets_109 : decode cX0_madeMeets 109 = .ok (.invokevirtual 76, 3) := by decide +kernel
theorem dX0_madeMeets_112 : decode cX0_madeMeets 112 = .ok (.ireturn, 1) := by decide +kernel
theorem dX0_madeMeets_113 : decode cX0_madeMeets 113 = .ok (.iconst 1, 1) := by decide +kernel
theorem dX0_madeMeets_114 : decode cX0_madeMeets 114 = .ok (.ireturn, 1) := by decide +kernel
theorem dX0_endsWithLower_0 : decode cX0_endsWithLower 0 = .ok (.iconst 0, 1) := by decide +kernel
theorem dX0_endsWithLower_1 : decode cX0_endsWithLower 1 = .ok (.istore_n 1, 1) := by decide +kernel
theorem dX0_endsWithLower_2 : decode cX0_endsWithLower 2 = .ok (.iload_n 1, 1) := by decide +kernel
theorem dX0_endsWithLower_3 : decode cX0_endsWithLower 3 = .ok (.aload_n 0, 1) := by decide +kernel
theorem dX0_endsWithLower_4 : decode cX0_endsWithLower 4 = .ok (.getfield 18, 3) := by decide +kernel
theorem dX0_endsWithLower_7 : decode cX0_endsWithLower 7 = .ok (.iconst 1, 1) := by decide +kernel
theorem dX0_endsWithLower_8 : decode cX0_endsWithLower 8 = .ok (.isub, 1) := by decide +kernel
theorem dX0_endsWithLower_9 : decode cX0_endsWithLower 9 = .ok (.if_icmp .ge 66, 3) := by decide +kernel
theorem dX0_endsWithLower_12 : decode cX0_endsWithLower 12 = .ok (.lconst 0, 1) := by decide +kernel
theorem dX0_endsWithLower_13 : decode cX0_endsWithLower 13 = .ok (.lstore_n 2, 1) := by decide +kernel
theorem dX0_endsWithLower_14 : decode cX0_endsWithLower 14 = .ok (.aload_n 0, 1) := by decide +kernel
theorem dX0_endsWithLower_15 : decode cX0_endsWithLower 15 = .ok (.getfield 18, 3) := by decide +kernel
theorem dX0_endsWithLower_18 : decode cX0_endsWithLower 18 = .ok (.iconst 1, 1) := by decide +kernel
theorem dX0_endsWithLower_19 : decode cX0_endsWithLower 19 = .ok (.isub, 1) := by decide +kernel
theorem dX0_endsWithLower_20 : decode cX0_endsWithLower 20 = .ok (.istore 4, 2) := by decide +kernel
theorem dX0_endsWithLower_22 : decode cX0_endsWithLower 22 = .ok (.iload 4, 2) := by decide +kernel
theorem dX0_endsWithLower_24 : decode cX0_endsWithLower 24 = .ok (.ifCond .lt 22, 3) := by decide +kernel
theorem dX0_endsWithLower_27 : decode cX0_endsWithLower 27 = .ok (.lload_n 2, 1) := by decide +kernel
theorem dX0_endsWithLower_28 : decode cX0_endsWithLower 28 = .ok (.iload_n 1, 1) := by decide +kernel
theorem dX0_endsWithLower_29 : decode cX0_endsWithLower 29 = .ok (.i2l, 1) := by decide +kernel
theorem dX0_endsWithLower_30 : decode cX0_endsWithLower 30 = .ok (.lmul, 1) := by decide +kernel
theorem dX0_endsWithLower_31 : decode cX0_endsWithLower 31 = .ok (.aload_n 0, 1) := by decide +kernel
theorem dX0_endsWithLower_32 : decode cX0_endsWithLower 32 = .ok (.getfield 26, 3) := by decide +kernel
theorem dX0_endsWithLower_35 : decode cX0_endsWithLower 35 = .ok (.iload 4, 2) := by decide +kernel
theorem dX0_endsWithLower_37 : decode cX0_endsWithLower 37 = .ok (.laload, 1) := by decide +kernel
theorem dX0_endsWithLower_38 : decode cX0_endsWithLower 38 = .ok (.ladd, 1) := by decide +kernel
theorem dX0_endsWithLower_39 : decode cX0_endsWithLower 39 = .ok (.lstore_n 2, 1) := by decide +kernel
theorem dX0_endsWithLower_40 : decode cX0_endsWithLower 40 = .ok (.iinc 4 (-1), 3) := by decide +kernel
theorem dX0_endsWithLower_43 : decode cX0_endsWithLower 43 = .ok (.goto (-21), 3) := by decide +kernel
theorem dX0_endsWithLower_46 : decode cX0_endsWithLower 46 = .ok (.aload_n 0, 1) := by decide +kernel
theorem dX0_endsWithLower_47 : decode cX0_endsWithLower 47 = .ok (.getfield 12, 3) := by decide +kernel
theorem dX0_endsWithLower_50 : decode cX0_endsWithLower 50 = .ok (.iconst 1, 1) := by decide +kernel
theorem dX0_endsWithLower_51 : decode cX0_endsWithLower 51 = .ok (.aload_n 0, 1) := by decide +kernel
theorem dX0_endsWithLower_52 : decode cX0_endsWithLower 52 = .ok (.getfield 18, 3) := by decide +kernel
theorem dX0_endsWithLower_55 : decode cX0_endsWithLower 55 = .ok (.iconst 1, 1) := by decide +kernel
theorem dX0_endsWithLower_56 : decode cX0_endsWithLower 56 = .ok (.isub, 1) := by decide +kernel
theorem dX0_endsWithLower_57 : decode cX0_endsWithLower 57 = .ok (.iload_n 1, 1) := by decide +kernel
theorem dX0_endsWithLower_58 : decode cX0_endsWithLower 58 = .ok (.iconst 1, 1) := by decide +kernel
theorem dX0_endsWithLower_59 : decode cX0_endsWithLower 59 = .ok (.invokevirtual 58, 3) := by decide +kernel
theorem dX0_endsWithLower_62 : decode cX0_endsWithLower 62 = .ok (.lload_n 2, 1) := by decide +kernel
theorem dX0_endsWithLower_63 : decode cX0_endsWithLower 63 = .ok (.lcmp, 1) := by decide +kernel
theorem dX0_endsWithLower_64 : decode cX0_endsWithLower 64 = .ok (.ifCond .eq 5, 3) := by decide +kernel
theorem dX0_endsWithLower_67 : decode cX0_endsWithLower 67 = .ok (.iconst 0, 1) := by decide +kernel
theorem dX0_endsWithLower_68 : decode cX0_endsWithLower 68 = .ok (.ireturn, 1) := by decide +kernel
theorem dX0_endsWithLower_69 : decode cX0_endsWithLower 69 = .ok (.iinc 1 1, 3) := by decide +kernel
theorem dX0_endsWithLower_72 : decode cX0_endsWithLower 72 = .ok (.goto (-70), 3) := by decide +kernel
theorem dX0_endsWithLower_75 : decode cX0_endsWithLower 75 = .ok (.iconst 1, 1) := by decide +kernel
theorem dX0_endsWithLower_76 : decode cX0_endsWithLower 76 = .ok (.ireturn, 1) := by decide +kernel
theorem dX1_init_0 : decode cX1_init 0 = .ok (.aload_n 0, 1) := by decide +kernel
theorem dX1_init_1 : decode cX1_init 1 = .ok (.invokespecial 1, 3) := by decide +kernel
theorem dX1_init_4 : decode cX1_init 4 = .ok (.aload_n 0, 1) := by decide +kernel
theorem dX1_init_5 : decode cX1_init 5 = .ok (.lconst 0, 1) := by decide +kernel
theorem dX1_init_6 : decode cX1_init 6 = .ok (.putfield 7, 3) := by decide +kernel
theorem dX1_init_9 : decode cX1_init 9 = .ok (.aload_n 0, 1) := by decide +kernel
theorem dX1_init_10 : decode cX1_init 10 = .ok (.lconst 1, 1) := by decide +kernel
theorem dX1_init_11 : decode cX1_init 11 = .ok (.putfield 13, 3) := by decide +kernel
theorem dX1_init_14 : decode cX1_init 14 = .ok (.return_, 1) := by decide +kernel
theorem dX1_row_0 : decode cX1_row 0 = .ok (.iconst 0, 1) := by decide +kernel
theorem dX1_row_1 : decode cX1_row 1 = .ok (.iload_n 0, 1) := by decide +kernel
theorem dX1_row_2 : decode cX1_row 2 = .ok (.invokestatic 16, 3) := by decide +kernel
theorem dX1_row_5 : decode cX1_row 5 = .ok (.anewarray 8, 3) := by decide +kernel
theorem dX1_row_8 : decode cX1_row 8 = .ok (.astore_n 1, 1) := by decide +kernel
theorem dX1_row_9 : decode cX1_row 9 = .ok (.iconst 0, 1) := by decide +kernel
theorem dX1_row_10 : decode cX1_row 10 = .ok (.istore_n 2, 1) := by decide +kernel
theorem dX1_row_11 : decode cX1_row 11 = .ok (.iload_n 2, 1) := by decide +kernel
theorem dX1_row_12 : decode cX1_row 12 = .ok (.aload_n 1, 1) := by decide +kernel
theorem dX1_row_13 : decode cX1_row 13 = .ok (.arraylength, 1) := by decide +kernel
theorem dX1_row_14 : decode cX1_row 14 = .ok (.if_icmp .ge 19, 3) := by decide +kernel
theorem dX1_row_17 : decode cX1_row 17 = .ok (.aload_n 1, 1) := by decide +kernel
theorem dX1_row_18 : decode cX1_row 18 = .ok (.iload_n 2, 1) := by decide +kernel
theorem dX1_row_19 : decode cX1_row 19 = .ok (.new 8, 3) := by decide +kernel
theorem dX1_row_22 : decode cX1_row 22 = .ok (.dup, 1) := by decide +kernel
theorem dX1_row_23 : decode cX1_row 23 = .ok (.invokespecial 22, 3) := by decide +kernel
theorem dX1_row_26 : decode cX1_row 26 = .ok (.aastore, 1) := by decide +kernel
theorem dX1_row_27 : decode cX1_row 27 = .ok (.iinc 2 1, 3) := by decide +kernel
theorem dX1_row_30 : decode cX1_row 30 = .ok (.goto (-19), 3) := by decide +kernel
theorem dX1_row_33 : decode cX1_row 33 = .ok (.aload_n 1, 1) := by decide +kernel
theorem dX1_row_34 : decode cX1_row 34 = .ok (.areturn, 1) := by decide +kernel
theorem dX1_part_0 : decode cX1_part 0 = .ok (.iload_n 1, 1) := by decide +kernel
theorem dX1_part_1 : decode cX1_part 1 = .ok (.ifCond .ne 10, 3) := by decide +kernel
theorem dX1_part_4 : decode cX1_part 4 = .ok (.aload_n 0, 1) := by decide +kernel
theorem dX1_part_5 : decode cX1_part 5 = .ok (.getfield 7, 3) := by decide +kernel
theorem dX1_part_8 : decode cX1_part 8 = .ok (.goto 7, 3) := by decide +kernel
theorem dX1_part_11 : decode cX1_part 11 = .ok (.aload_n 0, 1) := by decide +kernel
theorem dX1_part_12 : decode cX1_part 12 = .ok (.getfield 13, 3) := by decide +kernel
theorem dX1_part_15 : decode cX1_part 15 = .ok (.lreturn, 1) := by decide +kernel
theorem dX1_isZero_0 : decode cX1_isZero 0 = .ok (.aload_n 0, 1) := by decide +kernel
theorem dX1_isZero_1 : decode cX1_isZero 1 = .ok (.getfield 7, 3) := by decide +kernel
theorem dX1_isZero_4 : decode cX1_isZero 4 = .ok (.lconst 0, 1) := by decide +kernel
theorem dX1_isZero_5 : decode cX1_isZero 5 = .ok (.lcmp, 1) := by decide +kernel
theorem dX1_isZero_6 : decode cX1_isZero 6 = .ok (.ifCond .ne 7, 3) := by decide +kernel
theorem dX1_isZero_9 : decode cX1_isZero 9 = .ok (.iconst 1, 1) := by decide +kernel
theorem dX1_isZero_10 : decode cX1_isZero 10 = .ok (.goto 4, 3) := by decide +kernel
theorem dX1_isZero_13 : decode cX1_isZero 13 = .ok (.iconst 0, 1) := by decide +kernel
theorem dX1_isZero_14 : decode cX1_isZero 14 = .ok (.ireturn, 1) := by decide +kernel
theorem dX1_copy_0 : decode cX1_copy 0 = .ok (.aload_n 0, 1) := by decide +kernel
theorem dX1_copy_1 : decode cX1_copy 1 = .ok (.aload_n 1, 1) := by decide +kernel
theorem dX1_copy_2 : decode cX1_copy 2 = .ok (.getfield 7, 3) := by decide +kernel
theorem dX1_copy_5 : decode cX1_copy 5 = .ok (.putfield 7, 3) := by decide +kernel
theorem dX1_copy_8 : decode cX1_copy 8 = .ok (.aload_n 0, 1) := by decide +kernel
theorem dX1_copy_9 : decode cX1_copy 9 = .ok (.aload_n 1, 1) := by decide +kernel
theorem dX1_copy_10 : decode cX1_copy 10 = .ok (.getfield 13, 3) := by decide +kernel
theorem dX1_copy_13 : decode cX1_copy 13 = .ok (.putfield 13, 3) := by decide +kernel
theorem dX1_copy_16 : decode cX1_copy 16 = .ok (.return_, 1) := by decide +kernel
theorem dX1_set_0 : decode cX1_set 0 = .ok (.lload_n 3, 1) := by decide +kernel
theorem dX1_set_1 : decode cX1_set 1 = .ok (.lconst 0, 1) := by decide +kernel
theorem dX1_set_2 : decode cX1_set 2 = .ok (.lcmp, 1) := by decide +kernel
theorem dX1_set_3 : decode cX1_set 3 = .ok (.ifCond .ne 14, 3) := by decide +kernel
theorem dX1_set_6 : decode cX1_set 6 = .ok (.aload_n 0, 1) := by decide +kernel
theorem dX1_set_7 : decode cX1_set 7 = .ok (.lconst 0, 1) := by decide +kernel
theorem dX1_set_8 : decode cX1_set 8 = .ok (.putfield 7, 3) := by decide +kernel
theorem dX1_set_11 : decode cX1_set 11 = .ok (.aload_n 0, 1) := by decide +kernel
theorem dX1_set_12 : decode cX1_set 12 = .ok (.lconst 1, 1) := by decide +kernel
theorem dX1_set_13 : decode cX1_set 13 = .ok (.putfield 13, 3) := by decide +kernel
theorem dX1_set_16 : decode cX1_set 16 = .ok (.return_, 1) := by decide +kernel
theorem dX1_set_17 : decode cX1_set 17 = .ok (.lload_n 1, 1) := by decide +kernel
theorem dX1_set_18 : decode cX1_set 18 = .ok (.lload_n 3, 1) := by decide +kernel
theorem dX1_set_19 : decode cX1_set 19 = .ok (.invokestatic 23, 3) := by decide +kernel
theorem dX1_set_22 : decode cX1_set 22 = .ok (.lstore 5, 2) := by decide +kernel
theorem dX1_set_24 : decode cX1_set 24 = .ok (.lload_n 3, 1) := by decide +kernel
theorem dX1_set_25 : decode cX1_set 25 = .ok (.lconst 0, 1) := by decide +kernel
theorem dX1_set_26 : decode cX1_set 26 = .ok (.lcmp, 1) := by decide +kernel
theorem dX1_set_27 : decode cX1_set 27 = .ok (.ifCond .ge 9, 3) := by decide +kernel
theorem dX1_set_30 : decode cX1_set 30 = .ok (.ldc2_w 27, 3) := by decide +kernel
theorem dX1_set_33 : decode cX1_set 33 = .ok (.goto 4, 3) := by decide +kernel
theorem dX1_set_36 : decode cX1_set 36 = .ok (.lconst 1, 1) := by decide +kernel
theorem dX1_set_37 : decode cX1_set 37 = .ok (.lstore 7, 2) := by decide +kernel
theorem dX1_set_39 : decode cX1_set 39 = .ok (.aload_n 0, 1) := by decide +kernel
theorem dX1_set_40 : decode cX1_set 40 = .ok (.lload 7, 2) := by decide +kernel
theorem dX1_set_42 : decode cX1_set 42 = .ok (.lload_n 1, 1) := by decide +kernel
theorem dX1_set_43 : decode cX1_set 43 = .ok (.lload 5, 2) := by decide +kernel
theorem dX1_set_45 : decode cX1_set 45 = .ok (.ldiv, 1) := by decide +kernel
theorem dX1_set_46 : decode cX1_set 46 = .ok (.lmul, 1) := by decide +kernel
theorem dX1_set_47 : decode cX1_set 47 = .ok (.putfield 7, 3) := by decide +kernel
theorem dX1_set_50 : decode cX1_set 50 = .ok (.aload_n 0, 1) := by decide +kernel
theorem dX1_set_51 : decode cX1_set 51 = .ok (.lload 7, 2) := by decide +kernel
theorem dX1_set_53 : decode cX1_set 53 = .ok (.lload_n 3, 1) := by decide +kernel
theorem dX1_set_54 : decode cX1_set 54 = .ok (.lload 5, 2) := by decide +kernel
theorem dX1_set_56 : decode cX1_set 56 = .ok (.ldiv, 1) := by decide +kernel
theorem dX1_set_57 : decode cX1_set 57 = .ok (.lmul, 1) := by decide +kernel
theorem dX1_set_58 : decode cX1_set 58 = .ok (.putfield 13, 3) := by decide +kernel
theorem dX1_set_61 : decode cX1_set 61 = .ok (.return_, 1) := by decide +kernel
theorem dX1_add_0 : decode cX1_add 0 = .ok (.aload_n 0, 1) := by decide +kernel
theorem dX1_add_1 : decode cX1_add 1 = .ok (.aload_n 1, 1) := by decide +kernel
theorem dX1_add_2 : decode cX1_add 2 = .ok (.getfield 7, 3) := by decide +kernel
theorem dX1_add_5 : decode cX1_add 5 = .ok (.aload_n 1, 1) := by decide +kernel
theorem dX1_add_6 : decode cX1_add 6 = .ok (.getfield 13, 3) := by decide +kernel
theorem dX1_add_9 : decode cX1_add 9 = .ok (.invokevirtual 29, 3) := by decide +kernel
theorem dX1_add_12 : decode cX1_add 12 = .ok (.return_, 1) := by decide +kernel
theorem dX1_subtract_0 : decode cX1_subtract 0 = .ok (.aload_n 0, 1) := by decide +kernel
theorem dX1_subtract_1 : decode cX1_subtract 1 = .ok (.aload_n 1, 1) := by decide +kernel
theorem dX1_subtract_2 : decode cX1_subtract 2 = .ok (.getfield 7, 3) := by decide +kernel
theorem dX1_subtract_5 : decode cX1_subtract 5 = .ok (.lneg, 1) := by decide +kernel
theorem dX1_subtract_6 : decode cX1_subtract 6 = .ok (.aload_n 1, 1) := by decide +kernel
theorem dX1_subtract_7 : decode cX1_subtract 7 = .ok (.getfield 13, 3) := by decide +kernel
theorem dX1_subtract_10 : decode cX1_subtract 10 = .ok (.invokevirtual 29, 3) := by decide +kernel
theorem dX1_subtract_13 : decode cX1_subtract 13 = .ok (.return_, 1) := by decide +kernel
theorem dX1_multiply_0 : decode cX1_multiply 0 = .ok (.aload_n 0, 1) := by decide +kernel
theorem dX1_multiply_1 : decode cX1_multiply 1 = .ok (.aload_n 1, 1) := by decide +kernel
theorem dX1_multiply_2 : decode cX1_multiply 2 = .ok (.getfield 7, 3) := by decide +kernel
theorem dX1_multiply_5 : decode cX1_multiply 5 = .ok (.aload_n 1, 1) := by decide +kernel
theorem dX1_multiply_6 : decode cX1_multiply 6 = .ok (.getfield 13, 3) := by decide +kernel
theorem dX1_multiply_9 : decode cX1_multiply 9 = .ok (.invokevirtual 33, 3) := by decide +kernel
theorem dX1_multiply_12 : decode cX1_multiply 12 = .ok (.return_, 1) := by decide +kernel
theorem dX1_divide_0 : decode cX1_divide 0 = .ok (.aload_n 0, 1) := by decide +kernel
theorem dX1_divide_1 : decode cX1_divide 1 = .ok (.aload_n 1, 1) := by decide +kernel
theorem dX1_divide_2 : decode cX1_divide 2 = .ok (.getfield 13, 3) := by decide +kernel
theorem dX1_divide_5 : decode cX1_divide 5 = .ok (.aload_n 1, 1) := by decide +kernel
theorem dX1_divide_6 : decode cX1_divide 6 = .ok (.getfield 7, 3) := by decide +kernel
theorem dX1_divide_9 : decode cX1_divide 9 = .ok (.invokevirtual 33, 3) := by decide +kernel
theorem dX1_divide_12 : decode cX1_divide 12 = .ok (.return_, 1) := by decide +kernel
theorem dX1_add__0 : decode cX1_add_ 0 = .ok (.aload_n 0, 1) := by decide +kernel
theorem dX1_add__1 : decode cX1_add_ 1 = .ok (.getfield 13, 3) := by decide +kernel
theorem dX1_add__4 : decode cX1_add_ 4 = .ok (.lload_n 3, 1) := by decide +kernel
theorem dX1_add__5 : decode cX1_add_ 5 = .ok (.invokestatic 23, 3) := by decide +kernel
theorem dX1_add__8 : decode cX1_add_ 8 = .ok (.lstore 5, 2) := by decide +kernel
theorem dX1_add__10 : decode cX1_add_ 10 = .ok (.aload_n 0, 1) := by decide +kernel
theorem dX1_add__11 : decode cX1_add_ 11 = .ok (.aload_n 0, 1) := by decide +kernel
theorem dX1_add__12 : decode cX1_add_ 12 = .ok (.getfield 7, 3) := by decide +kernel
theorem dX1_add__15 : decode cX1_add_ 15 = .ok (.lload_n 3, 1) := by decide +kernel
theorem dX1_add__16 : decode cX1_add_ 16 = .ok (.lload 5, 2) := by decide +kernel
theorem dX1_add__18 : decode cX1_add_ 18 = .ok (.ldiv, 1) := by decide +kernel
theorem dX1_add__19 : decode cX1_add_ 19 = .ok (.lmul, 1) := by decide +kernel
theorem dX1_add__20 : decode cX1_add_ 20 = .ok (.lload_n 1, 1) := by decide +kernel
theorem dX1_add__21 : decode cX1_add_ 21 = .ok (.aload_n 0, 1) := by decide +kernel
theorem dX1_add__22 : decode cX1_add_ 22 = .ok (.getfield 13, 3) := by decide +kernel
theorem dX1_add__25 : decode cX1_add_ 25 = .ok (.lload 5, 2) := by decide +kernel
theorem dX1_add__27 : decode cX1_add_ 27 = .ok (.ldiv, 1) := by decide +kernel
theorem dX1_add__28 : decode cX1_add_ 28 = .ok (.lmul, 1) := by decide +kernel
theorem dX1_add__29 : decode cX1_add_ 29 = .ok (.ladd, 1) := by decide +kernel
theorem dX1_add__30 : decode cX1_add_ 30 = .ok (.aload_n 0, 1) := by decide +kernel
theorem dX1_add__31 : decode cX1_add_ 31 = .ok (.getfield 13, 3) := by decide +kernel
theorem dX1_add__34 : decode cX1_add_ 34 = .ok (.lload 5, 2) := by decide +kernel
theorem dX1_add__36 : decode cX1_add_ 36 = .ok (.ldiv, 1) := by decide +kernel
theorem dX1_add__37 : decode cX1_add_ 37 = .ok (.lload_n 3, 1) := by decide +kernel
theorem dX1_add__38 : decode cX1_add_ 38 = .ok (.lmul, 1) := by decide +kernel
theorem dX1_add__39 : decode cX1_add_ 39 = .ok (.invokevirtual 36, 3) := by decide +kernel
theorem dX1_add__42 : decode cX1_add_ 42 = .ok (.return_, 1) := by decide +kernel
theorem dX1_multiply__0 : decode cX1_multiply_ 0 = .ok (.aload_n 0, 1) := by decide +kernel
theorem dX1_multiply__1 : decode cX1_multiply_ 1 = .ok (.getfield 7, 3) := by decide +kernel
theorem dX1_multiply__4 : decode cX1_multiply_ 4 = .ok (.lload_n 3, 1) := by decide +kernel
theorem dX1_multiply__5 : decode cX1_multiply_ 5 = .ok (.invokestatic 23, 3) := by decide +kernel
theorem dX1_multiply__8 : decode cX1_multiply_ 8 = .ok (.lstore 5, 2) := by decide +kernel
theorem dX1_multiply__10 : decode cX1_multiply_ 10 = .ok (.lload_n 1, 1) := by decide +kernel
theorem dX1_multiply__11 : decode cX1_multiply_ 11 = .ok (.aload_n 0, 1) := by decide +kernel
theorem dX1_multiply__12 : decode cX1_multiply_ 12 = .ok (.getfield 13, 3) := by decide +kernel
theorem dX1_multiply__15 : decode cX1_multiply_ 15 = .ok (.invokestatic 23, 3) := by decide +kernel
theorem dX1_multiply__18 : decode cX1_multiply_ 18 = .ok (.lstore 7, 2) := by decide +kernel
theorem dX1_multiply__20 : decode cX1_multiply_ 20 = .ok (.aload_n 0, 1) := by decide +kernel
theorem dX1_multiply__21 : decode cX1_multiply_ 21 = .ok (.aload_n 0, 1) := by decide +kernel
theorem dX1_multiply__22 : decode cX1_multiply_ 22 = .ok (.getfield 7, 3) := by decide +kernel
theorem dX1_multiply__25 : decode cX1_multiply_ 25 = .ok (.lload 5, 2) := by decide +kernel
theorem dX1_multiply__27 : decode cX1_multiply_ 27 = .ok (.ldiv, 1) := by decide +kernel
theorem dX1_multiply__28 : decode cX1_multiply_ 28 = .ok (.lload_n 1, 1) := by decide +kernel
theorem dX1_multiply__29 : decode cX1_multiply_ 29 = .ok (.lload 7, 2) := by decide +kernel
theorem dX1_multiply__31 : decode cX1_multiply_ 31 = .ok (.ldiv, 1) := by decide +kernel
theorem dX1_multiply__32 : decode cX1_multiply_ 32 = .ok (.lmul, 1) := by decide +kernel
theorem dX1_multiply__33 : decode cX1_multiply_ 33 = .ok (.aload_n 0, 1) := by decide +kernel
theorem dX1_multiply__34 : decode cX1_multiply_ 34 = .ok (.getfield 13, 3) := by decide +kernel
theorem dX1_multiply__37 : decode cX1_multiply_ 37 = .ok (.lload 7, 2) := by decide +kernel
theorem dX1_multiply__39 : decode cX1_multiply_ 39 = .ok (.ldiv, 1) := by decide +kernel
theorem dX1_multiply__40 : decode cX1_multiply_ 40 = .ok (.lload_n 3, 1) := by decide +kernel
theorem dX1_multiply__41 : decode cX1_multiply_ 41 = .ok (.lload 5, 2) := by decide +kernel
theorem dX1_multiply__43 : decode cX1_multiply_ 43 = .ok (.ldiv, 1) := by decide +kernel
theorem dX1_multiply__44 : decode cX1_multiply_ 44 = .ok (.lmul, 1) := by decide +kernel
theorem dX1_multiply__45 : decode cX1_multiply_ 45 = .ok (.invokevirtual 36, 3) := by decide +kernel
theorem dX1_multiply__48 : decode cX1_multiply_ 48 = .ok (.return_, 1) := by decide +kernel
theorem dX1_commonDivisor_0 : decode cX1_commonDivisor 0 = .ok (.lload_n 0, 1) := by decide +kernel
theorem dX1_commonDivisor_1 : decode cX1_commonDivisor 1 = .ok (.invokestatic 39, 3) := by decide +kernel
theorem dX1_commonDivisor_4 : decode cX1_commonDivisor 4 = .ok (.lstore 4, 2) := by decide +kernel
theorem dX1_commonDivisor_6 : decode cX1_commonDivisor 6 = .ok (.lload_n 2, 1) := by decide +kernel
theorem dX1_commonDivisor_7 : decode cX1_commonDivisor 7 = .ok (.invokestatic 39, 3) := by decide +kernel
theorem dX1_commonDivisor_10 : decode cX1_commonDivisor 10 = .ok (.lstore 6, 2) := by decide +kernel
theorem dX1_commonDivisor_12 : decode cX1_commonDivisor 12 = .ok (.iconst 0, 1) := by decide +kernel
theorem dX1_commonDivisor_13 : decode cX1_commonDivisor 13 = .ok (.istore 8, 2) := by decide +kernel
theorem dX1_commonDivisor_15 : decode cX1_commonDivisor 15 = .ok (.iload 8, 2) := by decide +kernel
theorem dX1_commonDivisor_17 : decode cX1_commonDivisor 17 = .ok (.bipush 100, 2) := by decide +kernel
theorem dX1_commonDivisor_19 : decode cX1_commonDivisor 19 = .ok (.if_icmp .ge 31, 3) := by decide +kernel
theorem dX1_commonDivisor_22 : decode cX1_commonDivisor 22 = .ok (.lload 6, 2) := by decide +kernel
theorem dX1_commonDivisor_24 : decode cX1_commonDivisor 24 = .ok (.lconst 0, 1) := by decide +kernel
theorem dX1_commonDivisor_25 : decode cX1_commonDivisor 25 = .ok (.lcmp, 1) := by decide +kernel
theorem dX1_commonDivisor_26 : decode cX1_commonDivisor 26 = .ok (.ifCond .eq 24, 3) := by decide +kernel
theorem dX1_commonDivisor_29 : decode cX1_commonDivisor 29 = .ok (.lload 4, 2) := by decide +kernel
theorem dX1_commonDivisor_31 : decode cX1_commonDivisor 31 = .ok (.lload 6, 2) := by decide +kernel
theorem dX1_commonDivisor_33 : decode cX1_commonDivisor 33 = .ok (.lrem, 1) := by decide +kernel
theorem dX1_commonDivisor_34 : decode cX1_commonDivisor 34 = .ok (.lstore 9, 2) := by decide +kernel
theorem dX1_commonDivisor_36 : decode cX1_commonDivisor 36 = .ok (.lload 6, 2) := by decide +kernel
theorem dX1_commonDivisor_38 : decode cX1_commonDivisor 38 = .ok (.lstore 4, 2) := by decide +kernel
theorem dX1_commonDivisor_40 : decode cX1_commonDivisor 40 = .ok (.lload 9, 2) := by decide +kernel
theorem dX1_commonDivisor_42 : decode cX1_commonDivisor 42 = .ok (.lstore 6, 2) := by decide +kernel
theorem dX1_commonDivisor_44 : decode cX1_commonDivisor 44 = .ok (.iinc 8 1, 3) := by decide +kernel
theorem dX1_commonDivisor_47 : decode cX1_commonDivisor 47 = .ok (.goto (-32), 3) := by decide +kernel
theorem dX1_commonDivisor_50 : decode cX1_commonDivisor 50 = .ok (.lconst 1, 1) := by decide +kernel
theorem dX1_commonDivisor_51 : decode cX1_commonDivisor 51 = .ok (.lload 4, 2) := by decide +kernel
theorem dX1_commonDivisor_53 : decode cX1_commonDivisor 53 = .ok (.invokestatic 43, 3) := by decide +kernel
theorem dX1_commonDivisor_56 : decode cX1_commonDivisor 56 = .ok (.lreturn, 1) := by decide +kernel
theorem dX2_init_0 : decode cX2_init 0 = .ok (.aload_n 0, 1) := by decide +kernel
theorem dX2_init_1 : decode cX2_init 1 = .ok (.invokespecial 3, 3) := by decide +kernel
theorem dX2_init_4 : decode cX2_init 4 = .ok (.aload_n 0, 1) := by decide +kernel
theorem dX2_init_5 : decode cX2_init 5 = .ok (.bipush 60, 2) := by decide +kernel
theorem dX2_init_7 : decode cX2_init 7 = .ok (.newarray .int, 2) := by decide +kernel
theorem dX2_init_9 : decode cX2_init 9 = .ok (.putfield 9, 3) := by decide +kernel
theorem dX2_init_12 : decode cX2_init 12 = .ok (.aload_n 0, 1) := by decide +kernel
theorem dX2_init_13 : decode cX2_init 13 = .ok (.iconst 0, 1) := by decide +kernel
theorem dX2_init_14 : decode cX2_init 14 = .ok (.putfield 15, 3) := by decide +kernel
theorem dX2_init_17 : decode cX2_init 17 = .ok (.return_, 1) := by decide +kernel
theorem dX2_tell_0 : decode cX2_tell 0 = .ok (.aload_n 0, 1) := by decide +kernel
theorem dX2_tell_1 : decode cX2_tell 1 = .ok (.iconst 0, 1) := by decide +kernel
theorem dX2_tell_2 : decode cX2_tell 2 = .ok (.putfield 15, 3) := by decide +kernel
theorem dX2_tell_5 : decode cX2_tell 5 = .ok (.aload_n 0, 1) := by decide +kernel
theorem dX2_tell_6 : decode cX2_tell 6 = .ok (.aload_n 1, 1) := by decide +kernel
theorem dX2_tell_7 : decode cX2_tell 7 = .ok (.iload_n 2, 1) := by decide +kernel
theorem dX2_tell_8 : decode cX2_tell 8 = .ok (.invokevirtual 19, 3) := by decide +kernel
theorem dX2_tell_11 : decode cX2_tell 11 = .ok (.aload_n 0, 1) := by decide +kernel
theorem dX2_tell_12 : decode cX2_tell 12 = .ok (.bipush 47, 2) := by decide +kernel
theorem dX2_tell_14 : decode cX2_tell 14 = .ok (.invokevirtual 25, 3) := by decide +kernel
theorem dX2_tell_17 : decode cX2_tell 17 = .ok (.aload_n 0, 1) := by decide +kernel
theorem dX2_tell_18 : decode cX2_tell 18 = .ok (.aload_n 3, 1) := by decide +kernel
theorem dX2_tell_19 : decode cX2_tell 19 = .ok (.iload_n 2, 1) := by decide +kernel
theorem dX2_tell_20 : decode cX2_tell 20 = .ok (.iconst 1, 1) := by decide +kernel
theorem dX2_tell_21 : decode cX2_tell 21 = .ok (.isub, 1) := by decide +kernel
theorem dX2_tell_22 : decode cX2_tell 22 = .ok (.invokevirtual 19, 3) := by decide +kernel
theorem dX2_tell_25 : decode cX2_tell 25 = .ok (.return_, 1) := by decide +kernel
theorem dX2_at_0 : decode cX2_at 0 = .ok (.iload_n 1, 1) := by decide +kernel
theorem dX2_at_1 : decode cX2_at 1 = .ok (.iconst (-1), 1) := by decide +kernel
theorem dX2_at_2 : decode cX2_at 2 = .ok (.if_icmp .ne 8, 3) := by decide +kernel
theorem dX2_at_5 : decode cX2_at 5 = .ok (.aload_n 0, 1) := by decide +kernel
theorem dX2_at_6 : decode cX2_at 6 = .ok (.getfield 15, 3) := by decide +kernel
theorem dX2_at_9 : decode cX2_at 9 = .ok (.ireturn, 1) := by decide +kernel
theorem dX2_at_10 : decode cX2_at 10 = .ok (.iload_n 1, 1) := by decide +kernel
theorem dX2_at_11 : decode cX2_at 11 = .ok (.iconst 0, 1) := by decide +kernel
theorem dX2_at_12 : decode cX2_at 12 = .ok (.aload_n 0, 1) := by decide +kernel
theorem dX2_at_13 : decode cX2_at 13 = .ok (.getfield 15, 3) := by decide +kernel
theorem dX2_at_16 : decode cX2_at 16 = .ok (.iconst 1, 1) := by decide +kernel
theorem dX2_at_17 : decode cX2_at 17 = .ok (.isub, 1) := by decide +kernel
theorem dX2_at_18 : decode cX2_at 18 = .ok (.invokestatic 29, 3) := by decide +kernel
theorem dX2_at_21 : decode cX2_at 21 = .ok (.ifCond .eq 12, 3) := by decide +kernel
theorem dX2_at_24 : decode cX2_at 24 = .ok (.aload_n 0, 1) := by decide +kernel
theorem dX2_at_25 : decode cX2_at 25 = .ok (.getfield 9, 3) := by decide +kernel
theorem dX2_at_28 : decode cX2_at 28 = .ok (.iload_n 1, 1) := by decide +kernel
theorem dX2_at_29 : decode cX2_at 29 = .ok (.iaload, 1) := by decide +kernel
theorem dX2_at_30 : decode cX2_at 30 = .ok (.goto 5, 3) := by decide +kernel
theorem dX2_at_33 : decode cX2_at 33 = .ok (.bipush (-3), 2) := by decide +kernel
theorem dX2_at_35 : decode cX2_at 35 = .ok (.ireturn, 1) := by decide +kernel
theorem dX2_addRow_0 : decode cX2_addRow 0 = .ok (.iconst 0, 1) := by decide +kernel
theorem dX2_addRow_1 : decode cX2_addRow 1 = .ok (.istore_n 3, 1) := by decide +kernel
theorem dX2_addRow_2 : decode cX2_addRow 2 = .ok (.iload_n 3, 1) := by decide +kernel
theorem dX2_addRow_3 : decode cX2_addRow 3 = .ok (.iload_n 2, 1) := by decide +kernel
theorem dX2_addRow_4 : decode cX2_addRow 4 = .ok (.if_icmp .ge 32, 3) := by decide +kernel
theorem dX2_addRow_7 : decode cX2_addRow 7 = .ok (.iload_n 3, 1) := by decide +kernel
theorem dX2_addRow_8 : decode cX2_addRow 8 = .ok (.aload_n 1, 1) := by decide +kernel
theorem dX2_addRow_9 : decode cX2_addRow 9 = .ok (.arraylength, 1) := by decide +kernel
theorem dX2_addRow_10 : decode cX2_addRow 10 = .ok (.if_icmp .ge 26, 3) := by decide +kernel
theorem dX2_addRow_13 : decode cX2_addRow 13 = .ok (.iload_n 3, 1) := by decide +kernel
theorem dX2_addRow_14 : decode cX2_addRow 14 = .ok (.ifCond .le 9, 3) := by decide +kernel
theorem dX2_addRow_17 : decode cX2_addRow 17 = .ok (.aload_n 0, 1) := by decide +kernel
theorem dX2_addRow_18 : decode cX2_addRow 18 = .ok (.bipush 32, 2) := by decide +kernel
theorem dX2_addRow_20 : decode cX2_addRow 20 = .ok (.invokevirtual 25, 3) := by decide +kernel
theorem dX2_addRow_23 : decode cX2_addRow 23 = .ok (.aload_n 0, 1) := by decide +kernel
theorem dX2_addRow_24 : decode cX2_addRow 24 = .ok (.aload_n 1, 1) := by decide +kernel
theorem dX2_addRow_25 : decode cX2_addRow 25 = .ok (.iload_n 3, 1) := by decide +kernel
theorem dX2_addRow_26 : decode cX2_addRow 26 = .ok (.iaload, 1) := by decide +kernel
theorem dX2_addRow_27 : decode cX2_addRow 27 = .ok (.invokevirtual 33, 3) := by decide +kernel
theorem dX2_addRow_30 : decode cX2_addRow 30 = .ok (.iinc 3 1, 3) := by decide +kernel
theorem dX2_addRow_33 : decode cX2_addRow 33 = .ok (.goto (-31), 3) := by decide +kernel
theorem dX2_addRow_36 : decode cX2_addRow 36 = .ok (.return_, 1) := by decide +kernel
theorem dX2_addNumber_0 : decode cX2_addNumber 0 = .ok (.iload_n 1, 1) := by decide +kernel
theorem dX2_addNumber_1 : decode cX2_addNumber 1 = .ok (.ifCond .ge 9, 3) := by decide +kernel
theorem dX2_addNumber_4 : decode cX2_addNumber 4 = .ok (.aload_n 0, 1) := by decide +kernel
theorem dX2_addNumber_5 : decode cX2_addNumber 5 = .ok (.bipush 45, 2) := by decide +kernel
theorem dX2_addNumber_7 : decode cX2_addNumber 7 = .ok (.invokevirtual 25, 3) := by decide +kernel
theorem dX2_addNumber_10 : decode cX2_addNumber 10 = .ok (.iload_n 1, 1) := by decide +kernel
theorem dX2_addNumber_11 : decode cX2_addNumber 11 = .ok (.invokestatic 36, 3) := by decide +kernel
theorem dX2_addNumber_14 : decode cX2_addNumber 14 = .ok (.istore_n 2, 1) := by decide +kernel
theorem dX2_addNumber_15 : decode cX2_addNumber 15 = .ok (.iload_n 2, 1) := by decide +kernel
theorem dX2_addNumber_16 : decode cX2_addNumber 16 = .ok (.bipush 9, 2) := by decide +kernel
theorem dX2_addNumber_18 : decode cX2_addNumber 18 = .ok (.if_icmp .le 17, 3) := by decide +kernel
theorem dX2_addNumber_21 : decode cX2_addNumber 21 = .ok (.aload_n 0, 1) := by decide +kernel
theorem dX2_addNumber_22 : decode cX2_addNumber 22 = .ok (.bipush 48, 2) := by decide +kernel
theorem dX2_addNumber_24 : decode cX2_addNumber 24 = .ok (.iload_n 2, 1) := by decide +kernel
theorem dX2_addNumber_25 : decode cX2_addNumber 25 = .ok (.bipush 10, 2) := by decide +kernel
theorem dX2_addNumber_27 : decode cX2_addNumber 27 = .ok (.idiv, 1) := by decide +kernel
theorem dX2_addNumber_28 : decode cX2_addNumber 28 = .ok (.bipush 10, 2) := by decide +kernel
theorem dX2_addNumber_30 : decode cX2_addNumber 30 = .ok (.irem, 1) := by decide +kernel
theorem dX2_addNumber_31 : decode cX2_addNumber 31 = .ok (.iadd, 1) := by decide +kernel
theorem dX2_addNumber_32 : decode cX2_addNumber 32 = .ok (.invokevirtual 25, 3) := by decide +kernel
theorem dX2_addNumber_35 : decode cX2_addNumber 35 = .ok (.aload_n 0, 1) := by decide +kernel
theorem dX2_addNumber_36 : decode cX2_addNumber 36 = .ok (.bipush 48, 2) := by decide +kernel
theorem dX2_addNumber_38 : decode cX2_addNumber 38 = .ok (.iload_n 2, 1) := by decide +kernel
theorem dX2_addNumber_39 : decode cX2_addNumber 39 = .ok (.bipush 10, 2) := by decide +kernel
theorem dX2_addNumber_41 : decode cX2_addNumber 41 = .ok (.irem, 1) := by decide +kernel
theorem dX2_addNumber_42 : decode cX2_addNumber 42 = .ok (.iadd, 1) := by decide +kernel
theorem dX2_addNumber_43 : decode cX2_addNumber 43 = .ok (.invokevirtual 25, 3) := by decide +kernel
theorem dX2_addNumber_46 : decode cX2_addNumber 46 = .ok (.return_, 1) := by decide +kernel
theorem dX2_addByte_0 : decode cX2_addByte 0 = .ok (.aload_n 0, 1) := by decide +kernel
theorem dX2_addByte_1 : decode cX2_addByte 1 = .ok (.getfield 15, 3) := by decide +kernel
theorem dX2_addByte_4 : decode cX2_addByte 4 = .ok (.aload_n 0, 1) := by decide +kernel
theorem dX2_addByte_5 : decode cX2_addByte 5 = .ok (.getfield 9, 3) := by decide +kernel
theorem dX2_addByte_8 : decode cX2_addByte 8 = .ok (.arraylength, 1) := by decide +kernel
theorem dX2_addByte_9 : decode cX2_addByte 9 = .ok (.if_icmp .ge 23, 3) := by decide +kernel
theorem dX2_addByte_12 : decode cX2_addByte 12 = .ok (.aload_n 0, 1) := by decide +kernel
theorem dX2_addByte_13 : decode cX2_addByte 13 = .ok (.getfield 9, 3) := by decide +kernel
theorem dX2_addByte_16 : decode cX2_addByte 16 = .ok (.aload_n 0, 1) := by decide +kernel
theorem dX2_addByte_17 : decode cX2_addByte 17 = .ok (.getfield 15, 3) := by decide +kernel
theorem dX2_addByte_20 : decode cX2_addByte 20 = .ok (.iload_n 1, 1) := by decide +kernel
theorem dX2_addByte_21 : decode cX2_addByte 21 = .ok (.iastore, 1) := by decide +kernel
theorem dX2_addByte_22 : decode cX2_addByte 22 = .ok (.aload_n 0, 1) := by decide +kernel
theorem dX2_addByte_23 : decode cX2_addByte 23 = .ok (.dup, 1) := by decide +kernel
theorem dX2_addByte_24 : decode cX2_addByte 24 = .ok (.getfield 15, 3) := by decide +kernel
theorem dX2_addByte_27 : decode cX2_addByte 27 = .ok (.iconst 1, 1) := by decide +kernel
theorem dX2_addByte_28 : decode cX2_addByte 28 = .ok (.iadd, 1) := by decide +kernel
theorem dX2_addByte_29 : decode cX2_addByte 29 = .ok (.putfield 15, 3) := by decide +kernel
theorem dX2_addByte_32 : decode cX2_addByte 32 = .ok (.return_, 1) := by decide +kernel
theorem dX3_init_0 : decode cX3_init 0 = .ok (.aload_n 0, 1) := by decide +kernel
theorem dX3_init_1 : decode cX3_init 1 = .ok (.invokespecial 3, 3) := by decide +kernel
theorem dX3_init_4 : decode cX3_init 4 = .ok (.aload_n 0, 1) := by decide +kernel
theorem dX3_init_5 : decode cX3_init 5 = .ok (.new 9, 3) := by decide +kernel
theorem dX3_init_8 : decode cX3_init 8 = .ok (.dup, 1) := by decide +kernel
theorem dX3_init_9 : decode cX3_init 9 = .ok (.invokespecial 11, 3) := by decide +kernel
theorem dX3_init_12 : decode cX3_init 12 = .ok (.putfield 12, 3) := by decide +kernel
theorem dX3_init_15 : decode cX3_init 15 = .ok (.aload_n 0, 1) := by decide +kernel
theorem dX3_init_16 : decode cX3_init 16 = .ok (.iconst 4, 1) := by decide +kernel
theorem dX3_init_17 : decode cX3_init 17 = .ok (.anewarray 18, 3) := by decide +kernel
theorem dX3_init_20 : decode cX3_init 20 = .ok (.putfield 20, 3) := by decide +kernel
theorem dX3_init_23 : decode cX3_init 23 = .ok (.iconst 0, 1) := by decide +kernel
theorem dX3_init_24 : decode cX3_init 24 = .ok (.istore_n 1, 1) := by decide +kernel
theorem dX3_init_25 : decode cX3_init 25 = .ok (.iload_n 1, 1) := by decide +kernel
theorem dX3_init_26 : decode cX3_init 26 = .ok (.iconst 4, 1) := by decide +kernel
theorem dX3_init_27 : decode cX3_init 27 = .ok (.if_icmp .ge 22, 3) := by decide +kernel
theorem dX3_init_30 : decode cX3_init 30 = .ok (.aload_n 0, 1) := by decide +kernel
theorem dX3_init_31 : decode cX3_init 31 = .ok (.getfield 20, 3) := by decide +kernel
theorem dX3_init_34 : decode cX3_init 34 = .ok (.iload_n 1, 1) := by decide +kernel
theorem dX3_init_35 : decode cX3_init 35 = .ok (.new 18, 3) := by decide +kernel
theorem dX3_init_38 : decode cX3_init 38 = .ok (.dup, 1) := by decide +kernel
theorem dX3_init_39 : decode cX3_init 39 = .ok (.invokespecial 24, 3) := by decide +kernel
theorem dX3_init_42 : decode cX3_init 42 = .ok (.aastore, 1) := by decide +kernel
theorem dX3_init_43 : decode cX3_init 43 = .ok (.iinc 1 1, 3) := by decide +kernel
theorem dX3_init_46 : decode cX3_init 46 = .ok (.goto (-21), 3) := by decide +kernel
theorem dX3_init_49 : decode cX3_init 49 = .ok (.return_, 1) := by decide +kernel
theorem dX3_copy_0 : decode cX3_copy 0 = .ok (.aload_n 0, 1) := by decide +kernel
theorem dX3_copy_1 : decode cX3_copy 1 = .ok (.getfield 12, 3) := by decide +kernel
theorem dX3_copy_4 : decode cX3_copy 4 = .ok (.aload_n 1, 1) := by decide +kernel
theorem dX3_copy_5 : decode cX3_copy 5 = .ok (.getfield 12, 3) := by decide +kernel
theorem dX3_copy_8 : decode cX3_copy 8 = .ok (.invokevirtual 25, 3) := by decide +kernel
theorem dX3_copy_11 : decode cX3_copy 11 = .ok (.iconst 0, 1) := by decide +kernel
theorem dX3_copy_12 : decode cX3_copy 12 = .ok (.istore_n 2, 1) := by decide +kernel
theorem dX3_copy_13 : decode cX3_copy 13 = .ok (.iload_n 2, 1) := by decide +kernel
theorem dX3_copy_14 : decode cX3_copy 14 = .ok (.iconst 4, 1) := by decide +kernel
theorem dX3_copy_15 : decode cX3_copy 15 = .ok (.if_icmp .ge 24, 3) := by decide +kernel
theorem dX3_copy_18 : decode cX3_copy 18 = .ok (.aload_n 0, 1) := by decide +kernel
theorem dX3_copy_19 : decode cX3_copy 19 = .ok (.getfield 20, 3) := by decide +kernel
theorem dX3_copy_22 : decode cX3_copy 22 = .ok (.iload_n 2, 1) := by decide +kernel
theorem dX3_copy_23 : decode cX3_copy 23 = .ok (.aaload, 1) := by decide +kernel
theorem dX3_copy_24 : decode cX3_copy 24 = .ok (.aload_n 1, 1) := by decide +kernel
theorem dX3_copy_25 : decode cX3_copy 25 = .ok (.getfield 20, 3) := by decide +kernel
theorem dX3_copy_28 : decode cX3_copy 28 = .ok (.iload_n 2, 1) := by decide +kernel
theorem dX3_copy_29 : decode cX3_copy 29 = .ok (.aaload, 1) := by decide +kernel
theorem dX3_copy_30 : decode cX3_copy 30 = .ok (.invokevirtual 29, 3) := by decide +kernel
theorem dX3_copy_33 : decode cX3_copy 33 = .ok (.iinc 2 1, 3) := by decide +kernel
theorem dX3_copy_36 : decode cX3_copy 36 = .ok (.goto (-23), 3) := by decide +kernel
theorem dX3_copy_39 : decode cX3_copy 39 = .ok (.return_, 1) := by decide +kernel
theorem dX3_filledDrawers_0 : decode cX3_filledDrawers 0 = .ok (.iconst 0, 1) := by decide +kernel
theorem dX3_filledDrawers_1 : decode cX3_filledDrawers 1 = .ok (.istore_n 1, 1) := by decide +kernel
theorem dX3_filledDrawers_2 : decode cX3_filledDrawers 2 = .ok (.iconst 0, 1) := by decide +kernel
theorem dX3_filledDrawers_3 : decode cX3_filledDrawers 3 = .ok (.istore_n 2, 1) := by decide +kernel
theorem dX3_filledDrawers_4 : decode cX3_filledDrawers 4 = .ok (.iload_n 2, 1) := by decide +kernel
theorem dX3_filledDrawers_5 : decode cX3_filledDrawers 5 = .ok (.iconst 4, 1) := by decide +kernel
theorem dX3_filledDrawers_6 : decode cX3_filledDrawers 6 = .ok (.if_icmp .ge 27, 3) := by decide +kernel
theorem dX3_filledDrawers_9 : decode cX3_filledDrawers 9 = .ok (.aload_n 0, 1) := by decide +kernel
theorem dX3_filledDrawers_10 : decode cX3_filledDrawers 10 = .ok (.getfield 20, 3) := by decide +kernel
theorem dX3_filledDrawers_13 : decode cX3_filledDrawers 13 = .ok (.iload_n 2, 1) := by decide +kernel
theorem dX3_filledDrawers_14 : decode cX3_filledDrawers 14 = .ok (.aaload, 1) := by decide +kernel
theorem dX3_filledDrawers_15 : decode cX3_filledDrawers 15 = .ok (.getfield 32, 3) := by decide +kernel
theorem dX3_filledDrawers_18 : decode cX3_filledDrawers 18 = .ok (.ifCond .le 9, 3) := by decide +kernel
theorem dX3_filledDrawers_21 : decode cX3_filledDrawers 21 = .ok (.iload_n 1, 1) := by decide +kernel
theorem dX3_filledDrawers_22 : decode cX3_filledDrawers 22 = .ok (.iconst 1, 1) := by decide +kernel
theorem dX3_filledDrawers_23 : decode cX3_filledDrawers 23 = .ok (.iload_n 2, 1) := by decide +kernel
theorem dX3_filledDrawers_24 : decode cX3_filledDrawers 24 = .ok (.ishl, 1) := by decide +kernel
theorem dX3_filledDrawers_25 : decode cX3_filledDrawers 25 = .ok (.ior, 1) := by decide +kernel
theorem dX3_filledDrawers_26 : decode cX3_filledDrawers 26 = .ok (.istore_n 1, 1) := by decide +kernel
theorem dX3_filledDrawers_27 : decode cX3_filledDrawers 27 = .ok (.iinc 2 1, 3) := by decide +kernel
theorem dX3_filledDrawers_30 : decode cX3_filledDrawers 30 = .ok (.goto (-26), 3) := by decide +kernel
theorem dX3_filledDrawers_33 : decode cX3_filledDrawers 33 = .ok (.iload_n 1, 1) := by decide +kernel
theorem dX3_filledDrawers_34 : decode cX3_filledDrawers 34 = .ok (.ireturn, 1) := by decide +kernel
theorem dX4_init_0 : decode cX4_init 0 = .ok (.aload_n 0, 1) := by decide +kernel
theorem dX4_init_1 : decode cX4_init 1 = .ok (.invokespecial 3, 3) := by decide +kernel
theorem dX4_init_4 : decode cX4_init 4 = .ok (.aload_n 0, 1) := by decide +kernel
theorem dX4_init_5 : decode cX4_init 5 = .ok (.bipush 6, 2) := by decide +kernel
theorem dX4_init_7 : decode cX4_init 7 = .ok (.bipush 6, 2) := by decide +kernel
theorem dX4_init_9 : decode cX4_init 9 = .ok (.multianewarray 9 2, 4) := by decide +kernel
theorem dX4_init_13 : decode cX4_init 13 = .ok (.putfield 11, 3) := by decide +kernel
theorem dX4_init_16 : decode cX4_init 16 = .ok (.aload_n 0, 1) := by decide +kernel
theorem dX4_init_17 : decode cX4_init 17 = .ok (.iconst 5, 1) := by decide +kernel
theorem dX4_init_18 : decode cX4_init 18 = .ok (.newarray .long, 2) := by decide +kernel
theorem dX4_init_20 : decode cX4_init 20 = .ok (.putfield 16, 3) := by decide +kernel
theorem dX4_init_23 : decode cX4_init 23 = .ok (.aload_n 0, 1) := by decide +kernel
theorem dX4_init_24 : decode cX4_init 24 = .ok (.iconst 5, 1) := by decide +kernel
theorem dX4_init_25 : decode cX4_init 25 = .ok (.newarray .long, 2) := by decide +kernel
theorem dX4_init_27 : decode cX4_init 27 = .ok (.putfield 20, 3) := by decide +kernel
theorem dX4_init_30 : decode cX4_init 30 = .ok (.return_, 1) := by decide +kernel
theorem dX4_multiplyOut_0 : decode cX4_multiplyOut 0 = .ok (.iconst 0, 1) := by decide +kernel
theorem dX4_multiplyOut_1 : decode cX4_multiplyOut 1 = .ok (.istore_n 2, 1) := by decide +kernel
theorem dX4_multiplyOut_2 : decode cX4_multiplyOut 2 = .ok (.iload_n 2, 1) := by decide +kernel
theorem dX4_multiplyOut_3 : decode cX4_multiplyOut 3 = .ok (.iconst 5, 1) := by decide +kernel
theorem dX4_multiplyOut_4 : decode cX4_multiplyOut 4 = .ok (.if_icmp .gt 26, 3) := by decide +kernel
theorem dX4_multiplyOut_7 : decode cX4_multiplyOut 7 = .ok (.aload_n 0, 1) := by decide +kernel
theorem dX4_multiplyOut_8 : decode cX4_multiplyOut 8 = .ok (.getfield 11, 3) := by decide +kernel
theorem dX4_multiplyOut_11 : decode cX4_multiplyOut 11 = .ok (.iconst 0, 1) := by decide +kernel
theorem dX4_multiplyOut_12 : decode cX4_multiplyOut 12 = .ok (.aaload, 1) := by decide +kernel
theorem dX4_multiplyOut_13 : decode cX4_multiplyOut 13 = .ok (.iload_n 2, 1) := by decide +kernel
theorem dX4_multiplyOut_14 : decode cX4_multiplyOut 14 = .ok (.iload_n 2, 1) := by decide +kernel
theorem dX4_multiplyOut_15 : decode cX4_multiplyOut 15 = .ok (.ifCond .ne 7, 3) := by decide +kernel
theorem dX4_multiplyOut_18 : decode cX4_multiplyOut 18 = .ok (.lconst 1, 1) := by decide +kernel
theorem dX4_multiplyOut_19 : decode cX4_multiplyOut 19 = .ok (.goto 4, 3) := by decide +kernel
theorem dX4_multiplyOut_22 : decode cX4_multiplyOut 22 = .ok (.lconst 0, 1) := by decide +kernel
theorem dX4_multiplyOut_23 : decode cX4_multiplyOut 23 = .ok (.lastore, 1) := by decide +kernel
theorem dX4_multiplyOut_24 : decode cX4_multiplyOut 24 = .ok (.iinc 2 1, 3) := by decide +kernel
theorem dX4_multiplyOut_27 : decode cX4_multiplyOut 27 = .ok (.goto (-25), 3) := by decide +kernel
theorem dX4_multiplyOut_30 : decode cX4_multiplyOut 30 = .ok (.iconst 0, 1) := by decide +kernel
theorem dX4_multiplyOut_31 : decode cX4_multiplyOut 31 = .ok (.istore_n 2, 1) := by decide +kernel
theorem dX4_multiplyOut_32 : decode cX4_multiplyOut 32 = .ok (.iload_n 2, 1) := by decide +kernel
theorem dX4_multiplyOut_33 : decode cX4_multiplyOut 33 = .ok (.aload_n 1, 1) := by decide +kernel
theorem dX4_multiplyOut_34 : decode cX4_multiplyOut 34 = .ok (.getfield 23, 3) := by decide +kernel
theorem dX4_multiplyOut_37 : decode cX4_multiplyOut 37 = .ok (.if_icmp .ge 101, 3) := by decide +kernel
theorem dX4_multiplyOut_40 : decode cX4_multiplyOut 40 = .ok (.iconst 0, 1) := by decide +kernel
theorem dX4_multiplyOut_41 : decode cX4_multiplyOut 41 = .ok (.istore_n 3, 1) := by decide +kernel
theorem dX4_multiplyOut_42 : decode cX4_multiplyOut 42 = .ok (.iload_n 3, 1) := by decide +kernel
theorem dX4_multiplyOut_43 : decode cX4_multiplyOut 43 = .ok (.iconst 5, 1) := by decide +kernel
theorem dX4_multiplyOut_44 : decode cX4_multiplyOut 44 = .ok (.if_icmp .gt 88, 3) := by decide +kernel
theorem dX4_multiplyOut_47 : decode cX4_multiplyOut 47 = .ok (.aload_n 1, 1) := by decide +kernel
theorem dX4_multiplyOut_48 : decode cX4_multiplyOut 48 = .ok (.getfield 29, 3) := by decide +kernel
theorem dX4_multiplyOut_51 : decode cX4_multiplyOut 51 = .ok (.iload_n 2, 1) := by decide +kernel
theorem dX4_multiplyOut_52 : decode cX4_multiplyOut 52 = .ok (.iaload, 1) := by decide +kernel
theorem dX4_multiplyOut_53 : decode cX4_multiplyOut 53 = .ok (.ineg, 1) := by decide +kernel
theorem dX4_multiplyOut_54 : decode cX4_multiplyOut 54 = .ok (.i2l, 1) := by decide +kernel
theorem dX4_multiplyOut_55 : decode cX4_multiplyOut 55 = .ok (.aload_n 0, 1) := by decide +kernel
theorem dX4_multiplyOut_56 : decode cX4_multiplyOut 56 = .ok (.getfield 11, 3) := by decide +kernel
theorem dX4_multiplyOut_59 : decode cX4_multiplyOut 59 = .ok (.iload_n 2, 1) := by decide +kernel
theorem dX4_multiplyOut_60 : decode cX4_multiplyOut 60 = .ok (.aaload, 1) := by decide +kernel
theorem dX4_multiplyOut_61 : decode cX4_multiplyOut 61 = .ok (.iload_n 3, 1) := by decide +kernel
theorem dX4_multiplyOut_62 : decode cX4_multiplyOut 62 = .ok (.laload, 1) := by decide +kernel
theorem dX4_multiplyOut_63 : decode cX4_multiplyOut 63 = .ok (.lmul, 1) := by decide +kernel
theorem dX4_multiplyOut_64 : decode cX4_multiplyOut 64 = .ok (.lstore 4, 2) := by decide +kernel
theorem dX4_multiplyOut_66 : decode cX4_multiplyOut 66 = .ok (.iload_n 3, 1) := by decide +kernel
theorem dX4_multiplyOut_67 : decode cX4_multiplyOut 67 = .ok (.ifCond .le 18, 3) := by decide +kernel
theorem dX4_multiplyOut_70 : decode cX4_multiplyOut 70 = .ok (.lload 4, 2) := by decide +kernel
theorem dX4_multiplyOut_72 : decode cX4_multiplyOut 72 = .ok (.aload_n 0, 1) := by decide +kernel
theorem dX4_multiplyOut_73 : decode cX4_multiplyOut 73 = .ok (.getfield 11, 3) := by decide +kernel
theorem dX4_multiplyOut_76 : decode cX4_multiplyOut 76 = .ok (.iload_n 2, 1) := by decide +kernel
theorem dX4_multiplyOut_77 : decode cX4_multiplyOut 77 = .ok (.aaload, 1) := by decide +kernel
theorem dX4_multiplyOut_78 : decode cX4_multiplyOut 78 = .ok (.iload_n 3, 1) := by decide +kernel
theorem dX4_multiplyOut_79 : decode cX4_multiplyOut 79 = .ok (.iconst 1, 1) := by decide +kernel
theorem dX4_multiplyOut_80 : decode cX4_multiplyOut 80 = .ok (.isub, 1) := by decide +kernel
theorem dX4_multiplyOut_81 : decode cX4_multiplyOut 81 = .ok (.laload, 1) := by decide +kernel
theorem dX4_multiplyOut_82 : decode cX4_multiplyOut 82 = .ok (.ladd, 1) := by decide +kernel
theorem dX4_multiplyOut_83 : decode cX4_multiplyOut 83 = .ok (.lstore 4, 2) := by decide +kernel
theorem dX4_multiplyOut_85 : decode cX4_multiplyOut 85 = .ok (.iload_n 2, 1) := by decide +kernel
theorem dX4_multiplyOut_86 : decode cX4_multiplyOut 86 = .ok (.ifCond .le 28, 3) := by decide +kernel
theorem dX4_multiplyOut_89 : decode cX4_multiplyOut 89 = .ok (.lload 4, 2) := by decide +kernel
theorem dX4_multiplyOut_91 : decode cX4_multiplyOut 91 = .ok (.aload_n 1, 1) := by decide +kernel
theorem dX4_multiplyOut_92 : decode cX4_multiplyOut 92 = .ok (.getfield 33, 3) := by decide +kernel
theorem dX4_multiplyOut_95 : decode cX4_multiplyOut 95 = .ok (.iload_n 2, 1) := by decide +kernel
theorem dX4_multiplyOut_96 : decode cX4_multiplyOut 96 = .ok (.iconst 1, 1) := by decide +kernel
theorem dX4_multiplyOut_97 : decode cX4_multiplyOut 97 = .ok (.isub, 1) := by decide +kernel
theorem dX4_multiplyOut_98 : decode cX4_multiplyOut 98 = .ok (.iaload, 1) := by decide +kernel
theorem dX4_multiplyOut_99 : decode cX4_multiplyOut 99 = .ok (.i2l, 1) := by decide +kernel
theorem dX4_multiplyOut_100 : decode cX4_multiplyOut 100 = .ok (.aload_n 0, 1) := by decide +kernel
theorem dX4_multiplyOut_101 : decode cX4_multiplyOut 101 = .ok (.getfield 11, 3) := by decide +kernel
theorem dX4_multiplyOut_104 : decode cX4_multiplyOut 104 = .ok (.iload_n 2, 1) := by decide +kernel
theorem dX4_multiplyOut_105 : decode cX4_multiplyOut 105 = .ok (.iconst 1, 1) := by decide +kernel
theorem dX4_multiplyOut_106 : decode cX4_multiplyOut 106 = .ok (.isub, 1) := by decide +kernel
theorem dX4_multiplyOut_107 : decode cX4_multiplyOut 107 = .ok (.aaload, 1) := by decide +kernel
theorem dX4_multiplyOut_108 : decode cX4_multiplyOut 108 = .ok (.iload_n 3, 1) := by decide +kernel
theorem dX4_multiplyOut_109 : decode cX4_multiplyOut 109 = .ok (.laload, 1) := by decide +kernel
theorem dX4_multiplyOut_110 : decode cX4_multiplyOut 110 = .ok (.lmul, 1) := by decide +kernel
theorem dX4_multiplyOut_111 : decode cX4_multiplyOut 111 = .ok (.lsub, 1) := by decide +kernel
theorem dX4_multiplyOut_112 : decode cX4_multiplyOut 112 = .ok (.lstore 4, 2) := by decide +kernel
theorem dX4_multiplyOut_114 : decode cX4_multiplyOut 114 = .ok (.aload_n 0, 1) := by decide +kernel
theorem dX4_multiplyOut_115 : decode cX4_multiplyOut 115 = .ok (.getfield 11, 3) := by decide +kernel
theorem dX4_multiplyOut_118 : decode cX4_multiplyOut 118 = .ok (.iload_n 2, 1) := by decide +kernel
theorem dX4_multiplyOut_119 : decode cX4_multiplyOut 119 = .ok (.iconst 1, 1) := by decide +kernel
theorem dX4_multiplyOut_120 : decode cX4_multiplyOut 120 = .ok (.iadd, 1) := by decide +kernel
theorem dX4_multiplyOut_121 : decode cX4_multiplyOut 121 = .ok (.aaload, 1) := by decide +kernel
theorem dX4_multiplyOut_122 : decode cX4_multiplyOut 122 = .ok (.iload_n 3, 1) := by decide +kernel
theorem dX4_multiplyOut_123 : decode cX4_multiplyOut 123 = .ok (.lload 4, 2) := by decide +kernel
theorem dX4_multiplyOut_125 : decode cX4_multiplyOut 125 = .ok (.lastore, 1) := by decide +kernel
theorem dX4_multiplyOut_126 : decode cX4_multiplyOut 126 = .ok (.iinc 3 1, 3) := by decide +kernel
theorem dX4_multiplyOut_129 : decode cX4_multiplyOut 129 = .ok (.goto (-87), 3) := by decide +kernel
theorem dX4_multiplyOut_132 : decode cX4_multiplyOut 132 = .ok (.iinc 2 1, 3) := by decide +kernel
theorem dX4_multiplyOut_135 : decode cX4_multiplyOut 135 = .ok (.goto (-103), 3) := by decide +kernel
theorem dX4_multiplyOut_138 : decode cX4_multiplyOut 138 = .ok (.return_, 1) := by decide +kernel
theorem dX4_pull_0 : decode cX4_pull 0 = .ok (.aload_n 1, 1) := by decide +kernel
theorem dX4_pull_1 : decode cX4_pull 1 = .ok (.getfield 29, 3) := by decide +kernel
theorem dX4_pull_4 : decode cX4_pull 4 = .ok (.iload_n 2, 1) := by decide +kernel
theorem dX4_pull_5 : decode cX4_pull 5 = .ok (.iaload, 1) := by decide +kernel
theorem dX4_pull_6 : decode cX4_pull 6 = .ok (.i2l, 1) := by decide +kernel
theorem dX4_pull_7 : decode cX4_pull 7 = .ok (.aload_n 0, 1) := by decide +kernel
theorem dX4_pull_8 : decode cX4_pull 8 = .ok (.getfield 16, 3) := by decide +kernel
theorem dX4_pull_11 : decode cX4_pull 11 = .ok (.iload_n 2, 1) := by decide +kernel
theorem dX4_pull_12 : decode cX4_pull 12 = .ok (.laload, 1) := by decide +kernel
theorem dX4_pull_13 : decode cX4_pull 13 = .ok (.lmul, 1) := by decide +kernel
theorem dX4_pull_14 : decode cX4_pull 14 = .ok (.lstore_n 3, 1) := by decide +kernel
theorem dX4_pull_15 : decode cX4_pull 15 = .ok (.iload_n 2, 1) := by decide +kernel
theorem dX4_pull_16 : decode cX4_pull 16 = .ok (.iconst 1, 1) := by decide +kernel
theorem dX4_pull_17 : decode cX4_pull 17 = .ok (.iadd, 1) := by decide +kernel
theorem dX4_pull_18 : decode cX4_pull 18 = .ok (.aload_n 1, 1) := by decide +kernel
theorem dX4_pull_19 : decode cX4_pull 19 = .ok (.getfield 23, 3) := by decide +kernel
theorem dX4_pull_22 : decode cX4_pull 22 = .ok (.if_icmp .ge 14, 3) := by decide +kernel
theorem dX4_pull_25 : decode cX4_pull 25 = .ok (.lload_n 3, 1) := by decide +kernel
theorem dX4_pull_26 : decode cX4_pull 26 = .ok (.aload_n 0, 1) := by decide +kernel
theorem dX4_pull_27 : decode cX4_pull 27 = .ok (.getfield 16, 3) := by decide +kernel
theorem dX4_pull_30 : decode cX4_pull 30 = .ok (.iload_n 2, 1) := by decide +kernel
theorem dX4_pull_31 : decode cX4_pull 31 = .ok (.iconst 1, 1) := by decide +kernel
theorem dX4_pull_32 : decode cX4_pull 32 = .ok (.iadd, 1) := by decide +kernel
theorem dX4_pull_33 : decode cX4_pull 33 = .ok (.laload, 1) := by decide +kernel
theorem dX4_pull_34 : decode cX4_pull 34 = .ok (.ladd, 1) := by decide +kernel
theorem dX4_pull_35 : decode cX4_pull 35 = .ok (.lstore_n 3, 1) := by decide +kernel
theorem dX4_pull_36 : decode cX4_pull 36 = .ok (.iload_n 2, 1) := by decide +kernel
theorem dX4_pull_37 : decode cX4_pull 37 = .ok (.ifCond .le 24, 3) := by decide +kernel
theorem dX4_pull_40 : decode cX4_pull 40 = .ok (.lload_n 3, 1) := by decide +kernel
theorem dX4_pull_41 : decode cX4_pull 41 = .ok (.aload_n 1, 1) := by decide +kernel
theorem dX4_pull_42 : decode cX4_pull 42 = .ok (.getfield 33, 3) := by decide +kernel
theorem dX4_pull_45 : decode cX4_pull 45 = .ok (.iload_n 2, 1) := by decide +kernel
theorem dX4_pull_46 : decode cX4_pull 46 = .ok (.iconst 1, 1) := by decide +kernel
theorem dX4_pull_47 : decode cX4_pull 47 = .ok (.isub, 1) := by decide +kernel
theorem dX4_pull_48 : decode cX4_pull 48 = .ok (.iaload, 1) := by decide +kernel
theorem dX4_pull_49 : decode cX4_pull 49 = .ok (.i2l, 1) := by decide +kernel
theorem dX4_pull_50 : decode cX4_pull 50 = .ok (.aload_n 0, 1) := by decide +kernel
theorem dX4_pull_51 : decode cX4_pull 51 = .ok (.getfield 16, 3) := by decide +kernel
theorem dX4_pull_54 : decode cX4_pull 54 = .ok (.iload_n 2, 1) := by decide +kernel
theorem dX4_pull_55 : decode cX4_pull 55 = .ok (.iconst 1, 1) := by decide +kernel
theorem dX4_pull_56 : decode cX4_pull 56 = .ok (.isub, 1) := by decide +kernel
theorem dX4_pull_57 : decode cX4_pull 57 = .ok (.laload, 1) := by decide +kernel
theorem dX4_pull_58 : decode cX4_pull 58 = .ok (.lmul, 1) := by decide +kernel
theorem dX4_pull_59 : decode cX4_pull 59 = .ok (.ladd, 1) := by decide +kernel
theorem dX4_pull_60 : decode cX4_pull 60 = .ok (.lstore_n 3, 1) := by decide +kernel
theorem dX4_pull_61 : decode cX4_pull 61 = .ok (.lload_n 3, 1) := by decide +kernel
theorem dX4_pull_62 : decode cX4_pull 62 = .ok (.lreturn, 1) := by decide +kernel
theorem dX4_walk_0 : decode cX4_walk 0 = .ok (.iconst 0, 1) := by decide +kernel
theorem dX4_walk_1 : decode cX4_walk 1 = .ok (.istore 5, 2) := by decide +kernel
theorem dX4_walk_3 : decode cX4_walk 3 = .ok (.iload 5, 2) := by decide +kernel
theorem dX4_walk_5 : decode cX4_walk 5 = .ok (.aload_n 1, 1) := by decide +kernel
theorem dX4_walk_6 : decode cX4_walk 6 = .ok (.getfield 23, 3) := by decide +kernel
theorem dX4_walk_9 : decode cX4_walk 9 = .ok (.if_icmp .ge 28, 3) := by decide +kernel
theorem dX4_walk_12 : decode cX4_walk 12 = .ok (.aload_n 0, 1) := by decide +kernel
theorem dX4_walk_13 : decode cX4_walk 13 = .ok (.getfield 16, 3) := by decide +kernel
theorem dX4_walk_16 : decode cX4_walk 16 = .ok (.iload 5, 2) := by decide +kernel
theorem dX4_walk_18 : decode cX4_walk 18 = .ok (.iload 5, 2) := by decide +kernel
theorem dX4_walk_20 : decode cX4_walk 20 = .ok (.iload 4, 2) := by decide +kernel
theorem dX4_walk_22 : decode cX4_walk 22 = .ok (.if_icmp .ne 7, 3) := by decide +kernel
theorem dX4_walk_25 : decode cX4_walk 25 = .ok (.lconst 1, 1) := by decide +kernel
theorem dX4_walk_26 : decode cX4_walk 26 = .ok (.goto 4, 3) := by decide +kernel
theorem dX4_walk_29 : decode cX4_walk 29 = .ok (.lconst 0, 1) := by decide +kernel
theorem dX4_walk_30 : decode cX4_walk 30 = .ok (.lastore, 1) := by decide +kernel
theorem dX4_walk_31 : decode cX4_walk 31 = .ok (.iinc 5 1, 3) := by decide +kernel
theorem dX4_walk_34 : decode cX4_walk 34 = .ok (.goto (-31), 3) := by decide +kernel
theorem dX4_walk_37 : decode cX4_walk 37 = .ok (.iconst 0, 1) := by decide +kernel
theorem dX4_walk_38 : decode cX4_walk 38 = .ok (.istore 5, 2) := by decide +kernel
theorem dX4_walk_40 : decode cX4_walk 40 = .ok (.iload 5, 2) := by decide +kernel
theorem dX4_walk_42 : decode cX4_walk 42 = .ok (.iload_n 2, 1) := by decide +kernel
theorem dX4_walk_43 : decode cX4_walk 43 = .ok (.if_icmp .ge 73, 3) := by decide +kernel
theorem dX4_walk_46 : decode cX4_walk 46 = .ok (.iconst 0, 1) := by decide +kernel
theorem dX4_walk_47 : decode cX4_walk 47 = .ok (.istore 6, 2) := by decide +kernel
theorem dX4_walk_49 : decode cX4_walk 49 = .ok (.iload 6, 2) := by decide +kernel
theorem dX4_walk_51 : decode cX4_walk 51 = .ok (.aload_n 1, 1) := by decide +kernel
theorem dX4_walk_52 : decode cX4_walk 52 = .ok (.getfield 23, 3) := by decide +kernel
theorem dX4_walk_55 : decode cX4_walk 55 = .ok (.if_icmp .ge 23, 3) := by decide +kernel
theorem dX4_walk_58 : decode cX4_walk 58 = .ok (.aload_n 0, 1) := by decide +kernel
theorem dX4_walk_59 : decode cX4_walk 59 = .ok (.getfield 20, 3) := by decide +kernel
theorem dX4_walk_62 : decode cX4_walk 62 = .ok (.iload 6, 2) := by decide +kernel
theorem dX4_walk_64 : decode cX4_walk 64 = .ok (.aload_n 0, 1) := by decide +kernel
theorem dX4_walk_65 : decode cX4_walk 65 = .ok (.aload_n 1, 1) := by decide +kernel
theorem dX4_walk_66 : decode cX4_walk 66 = .ok (.iload 6, 2) := by decide +kernel
theorem dX4_walk_68 : decode cX4_walk 68 = .ok (.invokevirtual 36, 3) := by decide +kernel
theorem dX4_walk_71 : decode cX4_walk 71 = .ok (.lastore, 1) := by decide +kernel
theorem dX4_walk_72 : decode cX4_walk 72 = .ok (.iinc 6 1, 3) := by decide +kernel
theorem dX4_walk_75 : decode cX4_walk 75 = .ok (.goto (-26), 3) := by decide +kernel
theorem dX4_walk_78 : decode cX4_walk 78 = .ok (.iconst 0, 1) := by decide +kernel
theorem dX4_walk_79 : decode cX4_walk 79 = .ok (.istore 6, 2) := by decide +kernel
theorem dX4_walk_81 : decode cX4_walk 81 = .ok (.iload 6, 2) := by decide +kernel
theorem dX4_walk_83 : decode cX4_walk 83 = .ok (.aload_n 1, 1) := by decide +kernel
theorem dX4_walk_84 : decode cX4_walk 84 = .ok (.getfield 23, 3) := by decide +kernel
theorem dX4_walk_87 : decode cX4_walk 87 = .ok (.if_icmp .ge 23, 3) := by decide +kernel
theorem dX4_walk_90 : decode cX4_walk 90 = .ok (.aload_n 0, 1) := by decide +kernel
theorem dX4_walk_91 : decode cX4_walk 91 = .ok (.getfield 16, 3) := by decide +kernel
theorem dX4_walk_94 : decode cX4_walk 94 = .ok (.iload 6, 2) := by decide +kernel
theorem dX4_walk_96 : decode cX4_walk 96 = .ok (.aload_n 0, 1) := by decide +kernel
theorem dX4_walk_97 : decode cX4_walk 97 = .ok (.getfield 20, 3) := by decide +kernel
theorem dX4_walk_100 : decode cX4_walk 100 = .ok (.iload 6, 2) := by decide +kernel
theorem dX4_walk_102 : decode cX4_walk 102 = .ok (.laload, 1) := by decide +kernel
theorem dX4_walk_103 : decode cX4_walk 103 = .ok (.lastore, 1) := by decide +kernel
theorem dX4_walk_104 : decode cX4_walk 104 = .ok (.iinc 6 1, 3) := by decide +kernel
theorem dX4_walk_107 : decode cX4_walk 107 = .ok (.goto (-26), 3) := by decide +kernel
theorem dX4_walk_110 : decode cX4_walk 110 = .ok (.iinc 5 1, 3) := by decide +kernel
theorem dX4_walk_113 : decode cX4_walk 113 = .ok (.goto (-73), 3) := by decide +kernel
theorem dX4_walk_116 : decode cX4_walk 116 = .ok (.aload_n 0, 1) := by decide +kernel
theorem dX4_walk_117 : decode cX4_walk 117 = .ok (.getfield 16, 3) := by decide +kernel
theorem dX4_walk_120 : decode cX4_walk 120 = .ok (.iload_n 3, 1) := by decide +kernel
theorem dX4_walk_121 : decode cX4_walk 121 = .ok (.laload, 1) := by decide +kernel
theorem dX4_walk_122 : decode cX4_walk 122 = .ok (.lreturn, 1) := by decide +kernel
theorem dX4_swing_0 : decode cX4_swing 0 = .ok (.iconst 0, 1) := by decide +kernel
theorem dX4_swing_1 : decode cX4_swing 1 = .ok (.istore 5, 2) := by decide +kernel
theorem dX4_swing_3 : decode cX4_swing 3 = .ok (.iload 5, 2) := by decide +kernel
theorem dX4_swing_5 : decode cX4_swing 5 = .ok (.aload_n 1, 1) := by decide +kernel
theorem dX4_swing_6 : decode cX4_swing 6 = .ok (.getfield 23, 3) := by decide +kernel
theorem dX4_swing_9 : decode cX4_swing 9 = .ok (.if_icmp .ge 35, 3) := by decide +kernel
theorem dX4_swing_12 : decode cX4_swing 12 = .ok (.aload_n 0, 1) := by decide +kernel
theorem dX4_swing_13 : decode cX4_swing 13 = .ok (.getfield 16, 3) := by decide +kernel
theorem dX4_swing_16 : decode cX4_swing 16 = .ok (.iload 5, 2) := by decide +kernel
theorem dX4_swing_18 : decode cX4_swing 18 = .ok (.lconst 0, 1) := by decide +kernel
theorem dX4_swing_19 : decode cX4_swing 19 = .ok (.lastore, 1) := by decide +kernel
theorem dX4_swing_20 : decode cX4_swing 20 = .ok (.aload_n 0, 1) := by decide +kernel
theorem dX4_swing_21 : decode cX4_swing 21 = .ok (.getfield 20, 3) := by decide +kernel
theorem dX4_swing_24 : decode cX4_swing 24 = .ok (.iload 5, 2) := by decide +kernel
theorem dX4_swing_26 : decode cX4_swing 26 = .ok (.iload 5, 2) := by decide +kernel
theorem dX4_swing_28 : decode cX4_swing 28 = .ok (.iload_n 2, 1) := by decide +kernel
theorem dX4_swing_29 : decode cX4_swing 29 = .ok (.if_icmp .ne 7, 3) := by decide +kernel
theorem dX4_swing_32 : decode cX4_swing 32 = .ok (.lconst 1, 1) := by decide +kernel
theorem dX4_swing_33 : decode cX4_swing 33 = .ok (.goto 4, 3) := by decide +kernel
theorem dX4_swing_36 : decode cX4_swing 36 = .ok (.lconst 0, 1) := by decide +kernel
theorem dX4_swing_37 : decode cX4_swing 37 = .ok (.lastore, 1) := by decide +kernel
theorem dX4_swing_38 : decode cX4_swing 38 = .ok (.iinc 5 1, 3) := by decide +kernel
theorem dX4_swing_41 : decode cX4_swing 41 = .ok (.goto (-38), 3) := by decide +kernel
theorem dX4_swing_44 : decode cX4_swing 44 = .ok (.iconst 0, 1) := by decide +kernel
theorem dX4_swing_45 : decode cX4_swing 45 = .ok (.istore 5, 2) := by decide +kernel
theorem dX4_swing_47 : decode cX4_swing 47 = .ok (.iload 5, 2) := by decide +kernel
theorem dX4_swing_49 : decode cX4_swing 49 = .ok (.iload_n 3, 1) := by decide +kernel
theorem dX4_swing_50 : decode cX4_swing 50 = .ok (.if_icmp .ge 79, 3) := by decide +kernel
theorem dX4_swing_53 : decode cX4_swing 53 = .ok (.iconst 0, 1) := by decide +kernel
theorem dX4_swing_54 : decode cX4_swing 54 = .ok (.istore 6, 2) := by decide +kernel
theorem dX4_swing_56 : decode cX4_swing 56 = .ok (.iload 6, 2) := by decide +kernel
theorem dX4_swing_58 : decode cX4_swing 58 = .ok (.aload_n 1, 1) := by decide +kernel
theorem dX4_swing_59 : decode cX4_swing 59 = .ok (.getfield 23, 3) := by decide +kernel
theorem dX4_swing_62 : decode cX4_swing 62 = .ok (.if_icmp .ge 26, 3) := by decide +kernel
theorem dX4_swing_65 : decode cX4_swing 65 = .ok (.aload_n 0, 1) := by decide +kernel
theorem dX4_swing_66 : decode cX4_swing 66 = .ok (.getfield 16, 3) := by decide +kernel
theorem dX4_swing_69 : decode cX4_swing 69 = .ok (.iload 6, 2) := by decide +kernel
theorem dX4_swing_71 : decode cX4_swing 71 = .ok (.dup2, 1) := by decide +kernel
theorem dX4_swing_72 : decode cX4_swing 72 = .ok (.laload, 1) := by decide +kernel
theorem dX4_swing_73 : decode cX4_swing 73 = .ok (.aload_n 0, 1) := by decide +kernel
theorem dX4_swing_74 : decode cX4_swing 74 = .ok (.getfield 20, 3) := by decide +kernel
theorem dX4_swing_77 : decode cX4_swing 77 = .ok (.iload 6, 2) := by decide +kernel
theorem dX4_swing_79 : decode cX4_swing 79 = .ok (.laload, 1) := by decide +kernel
theorem dX4_swing_80 : decode cX4_swing 80 = .ok (.ladd, 1) := by decide +kernel
theorem dX4_swing_81 : decode cX4_swing 81 = .ok (.lastore, 1) := by decide +kernel
theorem dX4_swing_82 : decode cX4_swing 82 = .ok (.iinc 6 1, 3) := by decide +kernel
theorem dX4_swing_85 : decode cX4_swing 85 = .ok (.goto (-29), 3) := by decide +kernel
theorem dX4_swing_88 : decode cX4_swing 88 = .ok (.iconst 0, 1) := by decide +kernel
theorem dX4_swing_89 : decode cX4_swing 89 = .ok (.istore 6, 2) := by decide +kernel
theorem dX4_swing_91 : decode cX4_swing 91 = .ok (.iload 6, 2) := by decide +kernel
theorem dX4_swing_93 : decode cX4_swing 93 = .ok (.aload_n 1, 1) := by decide +kernel
theorem dX4_swing_94 : decode cX4_swing 94 = .ok (.getfield 23, 3) := by decide +kernel
theorem dX4_swing_97 : decode cX4_swing 97 = .ok (.if_icmp .ge 26, 3) := by decide +kernel
theorem dX4_swing_100 : decode cX4_swing 100 = .ok (.aload_n 0, 1) := by decide +kernel
theorem dX4_swing_101 : decode cX4_swing 101 = .ok (.getfield 20, 3) := by decide +kernel
theorem dX4_swing_104 : decode cX4_swing 104 = .ok (.iload 6, 2) := by decide +kernel
theorem dX4_swing_106 : decode cX4_swing 106 = .ok (.dup2, 1) := by decide +kernel
theorem dX4_swing_107 : decode cX4_swing 107 = .ok (.laload, 1) := by decide +kernel
theorem dX4_swing_108 : decode cX4_swing 108 = .ok (.aload_n 0, 1) := by decide +kernel
theorem dX4_swing_109 : decode cX4_swing 109 = .ok (.aload_n 1, 1) := by decide +kernel
theorem dX4_swing_110 : decode cX4_swing 110 = .ok (.iload 6, 2) := by decide +kernel
theorem dX4_swing_112 : decode cX4_swing 112 = .ok (.invokevirtual 36, 3) := by decide +kernel
theorem dX4_swing_115 : decode cX4_swing 115 = .ok (.lsub, 1) := by decide +kernel
theorem dX4_swing_116 : decode cX4_swing 116 = .ok (.lastore, 1) := by decide +kernel
theorem dX4_swing_117 : decode cX4_swing 117 = .ok (.iinc 6 1, 3) := by decide +kernel
theorem dX4_swing_120 : decode cX4_swing 120 = .ok (.goto (-29), 3) := by decide +kernel
theorem dX4_swing_123 : decode cX4_swing 123 = .ok (.iinc 5 1, 3) := by decide +kernel
theorem dX4_swing_126 : decode cX4_swing 126 = .ok (.goto (-79), 3) := by decide +kernel
theorem dX4_swing_129 : decode cX4_swing 129 = .ok (.aload_n 0, 1) := by decide +kernel
theorem dX4_swing_130 : decode cX4_swing 130 = .ok (.getfield 16, 3) := by decide +kernel
theorem dX4_swing_133 : decode cX4_swing 133 = .ok (.iload 4, 2) := by decide +kernel
theorem dX4_swing_135 : decode cX4_swing 135 = .ok (.laload, 1) := by decide +kernel
theorem dX4_swing_136 : decode cX4_swing 136 = .ok (.lreturn, 1) := by decide +kernel
theorem dX5_init_0 : decode cX5_init 0 = .ok (.aload_n 0, 1) := by decide +kernel
theorem dX5_init_1 : decode cX5_init 1 = .ok (.invokespecial 1, 3) := by decide +kernel
theorem dX5_init_4 : decode cX5_init 4 = .ok (.aload_n 0, 1) := by decide +kernel
theorem dX5_init_5 : decode cX5_init 5 = .ok (.bipush 120, 2) := by decide +kernel
theorem dX5_init_7 : decode cX5_init 7 = .ok (.newarray .int, 2) := by decide +kernel
theorem dX5_init_9 : decode cX5_init 9 = .ok (.putfield 9, 3) := by decide +kernel
theorem dX5_init_12 : decode cX5_init 12 = .ok (.aload_n 0, 1) := by decide +kernel
theorem dX5_init_13 : decode cX5_init 13 = .ok (.iconst 0, 1) := by decide +kernel
theorem dX5_init_14 : decode cX5_init 14 = .ok (.putfield 13, 3) := by decide +kernel
theorem dX5_init_17 : decode cX5_init 17 = .ok (.return_, 1) := by decide +kernel
theorem dX5_hasRoomForInts_0 : decode cX5_hasRoomForInts 0 = .ok (.aload_n 0, 1) := by decide +kernel
theorem dX5_hasRoomForInts_1 : decode cX5_hasRoomForInts 1 = .ok (.getfield 13, 3) := by decide +kernel
theorem dX5_hasRoomForInts_4 : decode cX5_hasRoomForInts 4 = .ok (.iconst 4, 1) := by decide +kernel
theorem dX5_hasRoomForInts_5 : decode cX5_hasRoomForInts 5 = .ok (.iload_n 1, 1) := by decide +kernel
theorem dX5_hasRoomForInts_6 : decode cX5_hasRoomForInts 6 = .ok (.imul, 1) := by decide +kernel
theorem dX5_hasRoomForInts_7 : decode cX5_hasRoomForInts 7 = .ok (.iadd, 1) := by decide +kernel
theorem dX5_hasRoomForInts_8 : decode cX5_hasRoomForInts 8 = .ok (.bipush 120, 2) := by decide +kernel
theorem dX5_hasRoomForInts_10 : decode cX5_hasRoomForInts 10 = .ok (.if_icmp .gt 7, 3) := by decide +kernel
theorem dX5_hasRoomForInts_13 : decode cX5_hasRoomForInts 13 = .ok (.iconst 1, 1) := by decide +kernel
theorem dX5_hasRoomForInts_14 : decode cX5_hasRoomForInts 14 = .ok (.goto 4, 3) := by decide +kernel
theorem dX5_hasRoomForInts_17 : decode cX5_hasRoomForInts 17 = .ok (.iconst 0, 1) := by decide +kernel
theorem dX5_hasRoomForInts_18 : decode cX5_hasRoomForInts 18 = .ok (.ireturn, 1) := by decide +kernel
theorem dX5_add_0 : decode cX5_add 0 = .ok (.bipush 24, 2) := by decide +kernel
theorem dX5_add_2 : decode cX5_add 2 = .ok (.istore_n 2, 1) := by decide +kernel
theorem dX5_add_3 : decode cX5_add 3 = .ok (.iload_n 2, 1) := by decide +kernel
theorem dX5_add_4 : decode cX5_add 4 = .ok (.ifCond .lt 44, 3) := by decide +kernel
theorem dX5_add_7 : decode cX5_add 7 = .ok (.aload_n 0, 1) := by decide +kernel
theorem dX5_add_8 : decode cX5_add 8 = .ok (.getfield 13, 3) := by decide +kernel
theorem dX5_add_11 : decode cX5_add 11 = .ok (.bipush 120, 2) := by decide +kernel
theorem dX5_add_13 : decode cX5_add 13 = .ok (.if_icmp .ge 35, 3) := by decide +kernel
theorem dX5_add_16 : decode cX5_add 16 = .ok (.aload_n 0, 1) := by decide +kernel
theorem dX5_add_17 : decode cX5_add 17 = .ok (.getfield 9, 3) := by decide +kernel
theorem dX5_add_20 : decode cX5_add 20 = .ok (.aload_n 0, 1) := by decide +kernel
theorem dX5_add_21 : decode cX5_add 21 = .ok (.getfield 13, 3) := by decide +kernel
theorem dX5_add_24 : decode cX5_add 24 = .ok (.iload_n 1, 1) := by decide +kernel
theorem dX5_add_25 : decode cX5_add 25 = .ok (.iload_n 2, 1) := by decide +kernel
theorem dX5_add_26 : decode cX5_add 26 = .ok (.iushr, 1) := by decide +kernel
theorem dX5_add_27 : decode cX5_add 27 = .ok (.sipush 255, 3) := by decide +kernel
theorem dX5_add_30 : decode cX5_add 30 = .ok (.iand, 1) := by decide +kernel
theorem dX5_add_31 : decode cX5_add 31 = .ok (.iastore, 1) := by decide +kernel
theorem dX5_add_32 : decode cX5_add 32 = .ok (.aload_n 0, 1) := by decide +kernel
theorem dX5_add_33 : decode cX5_add 33 = .ok (.dup, 1) := by decide +kernel
theorem dX5_add_34 : decode cX5_add 34 = .ok (.getfield 13, 3) := by decide +kernel
theorem dX5_add_37 : decode cX5_add 37 = .ok (.iconst 1, 1) := by decide +kernel
theorem dX5_add_38 : decode cX5_add 38 = .ok (.iadd, 1) := by decide +kernel
theorem dX5_add_39 : decode cX5_add 39 = .ok (.putfield 13, 3) := by decide +kernel
theorem dX5_add_42 : decode cX5_add 42 = .ok (.iinc 2 (-8), 3) := by decide +kernel
theorem dX5_add_45 : decode cX5_add 45 = .ok (.goto (-42), 3) := by decide +kernel
theorem dX5_add_48 : decode cX5_add 48 = .ok (.return_, 1) := by decide +kernel
theorem dX5_holdsText_0 : decode cX5_holdsText 0 = .ok (.iload_n 1, 1) := by decide +kernel
theorem dX5_holdsText_1 : decode cX5_holdsText 1 = .ok (.iconst 1, 1) := by decide +kernel
theorem dX5_holdsText_2 : decode cX5_holdsText 2 = .ok (.bipush 60, 2) := by decide +kernel
theorem dX5_holdsText_4 : decode cX5_holdsText 4 = .ok (.invokestatic 17, 3) := by decide +kernel
theorem dX5_holdsText_7 : decode cX5_holdsText 7 = .ok (.ifCond .eq 15, 3) := by decide +kernel
theorem dX5_holdsText_10 : decode cX5_holdsText 10 = .ok (.iload_n 1, 1) := by decide +kernel
theorem dX5_holdsText_11 : decode cX5_holdsText 11 = .ok (.aload_n 0, 1) := by decide +kernel
theorem dX5_holdsText_12 : decode cX5_holdsText 12 = .ok (.getfield 13, 3) := by decide +kernel
theorem dX5_holdsText_15 : decode cX5_holdsText 15 = .ok (.if_icmp .gt 7, 3) := by decide +kernel
theorem dX5_holdsText_18 : decode cX5_holdsText 18 = .ok (.iconst 1, 1) := by decide +kernel
theorem dX5_holdsText_19 : decode cX5_holdsText 19 = .ok (.goto 4, 3) := by decide +kernel
theorem dX5_holdsText_22 : decode cX5_holdsText 22 = .ok (.iconst 0, 1) := by decide +kernel
theorem dX5_holdsText_23 : decode cX5_holdsText 23 = .ok (.ireturn, 1) := by decide +kernel
theorem dX5_byteAt_0 : decode cX5_byteAt 0 = .ok (.iload_n 1, 1) := by decide +kernel
theorem dX5_byteAt_1 : decode cX5_byteAt 1 = .ok (.iconst 0, 1) := by decide +kernel
theorem dX5_byteAt_2 : decode cX5_byteAt 2 = .ok (.aload_n 0, 1) := by decide +kernel
theorem dX5_byteAt_3 : decode cX5_byteAt 3 = .ok (.getfield 13, 3) := by decide +kernel
theorem dX5_byteAt_6 : decode cX5_byteAt 6 = .ok (.iconst 1, 1) := by decide +kernel
theorem dX5_byteAt_7 : decode cX5_byteAt 7 = .ok (.isub, 1) := by decide +kernel
theorem dX5_byteAt_8 : decode cX5_byteAt 8 = .ok (.invokestatic 17, 3) := by decide +kernel
theorem dX5_byteAt_11 : decode cX5_byteAt 11 = .ok (.ifCond .eq 12, 3) := by decide +kernel
theorem dX5_byteAt_14 : decode cX5_byteAt 14 = .ok (.aload_n 0, 1) := by decide +kernel
theorem dX5_byteAt_15 : decode cX5_byteAt 15 = .ok (.getfield 9, 3) := by decide +kernel
theorem dX5_byteAt_18 : decode cX5_byteAt 18 = .ok (.iload_n 1, 1) := by decide +kernel
theorem dX5_byteAt_19 : decode cX5_byteAt 19 = .ok (.iaload, 1) := by decide +kernel
theorem dX5_byteAt_20 : decode cX5_byteAt 20 = .ok (.goto 4, 3) := by decide +kernel
theorem dX5_byteAt_23 : decode cX5_byteAt 23 = .ok (.iconst 0, 1) := by decide +kernel
theorem dX5_byteAt_24 : decode cX5_byteAt 24 = .ok (.ireturn, 1) := by decide +kernel
theorem dX5_isDigit_0 : decode cX5_isDigit 0 = .ok (.aload_n 0, 1) := by decide +kernel
theorem dX5_isDigit_1 : decode cX5_isDigit 1 = .ok (.iload_n 1, 1) := by decide +kernel
theorem dX5_isDigit_2 : decode cX5_isDigit 2 = .ok (.invokevirtual 23, 3) := by decide +kernel
theorem dX5_isDigit_5 : decode cX5_isDigit 5 = .ok (.bipush 48, 2) := by decide +kernel
theorem dX5_isDigit_7 : decode cX5_isDigit 7 = .ok (.bipush 57, 2) := by decide +kernel
theorem dX5_isDigit_9 : decode cX5_isDigit 9 = .ok (.invokestatic 17, 3) := by decide +kernel
theorem dX5_isDigit_12 : decode cX5_isDigit 12 = .ok (.ireturn, 1) := by decide +kernel
theorem dX5_clear_0 : decode cX5_clear 0 = .ok (.aload_n 0, 1) := by decide +kernel
theorem dX5_clear_1 : decode cX5_clear 1 = .ok (.iconst 0, 1) := by decide +kernel
theorem dX5_clear_2 : decode cX5_clear 2 = .ok (.putfield 13, 3) := by decide +kernel
theorem dX5_clear_5 : decode cX5_clear 5 = .ok (.return_, 1) := by decide +kernel
theorem dX6_init_0 : decode cX6_init 0 = .ok (.aload_n 0, 1) := by decide +kernel
theorem dX6_init_1 : decode cX6_init 1 = .ok (.invokespecial 3, 3) := by decide +kernel
theorem dX6_init_4 : decode cX6_init 4 = .ok (.aload_n 0, 1) := by decide +kernel
theorem dX6_init_5 : decode cX6_init 5 = .ok (.iconst 5, 1) := by decide +kernel
theorem dX6_init_6 : decode cX6_init 6 = .ok (.newarray .int, 2) := by decide +kernel
theorem dX6_init_8 : decode cX6_init 8 = .ok (.putfield 9, 3) := by decide +kernel
theorem dX6_init_11 : decode cX6_init 11 = .ok (.aload_n 0, 1) := by decide +kernel
theorem dX6_init_12 : decode cX6_init 12 = .ok (.iconst 4, 1) := by decide +kernel
theorem dX6_init_13 : decode cX6_init 13 = .ok (.newarray .int, 2) := by decide +kernel
theorem dX6_init_15 : decode cX6_init 15 = .ok (.putfield 15, 3) := by decide +kernel
theorem dX6_init_18 : decode cX6_init 18 = .ok (.aload_n 0, 1) := by decide +kernel
theorem dX6_init_19 : decode cX6_init 19 = .ok (.iconst 0, 1) := by decide +kernel
theorem dX6_init_20 : decode cX6_init 20 = .ok (.putfield 18, 3) := by decide +kernel
theorem dX6_init_23 : decode cX6_init 23 = .ok (.aload_n 0, 1) := by decide +kernel
theorem dX6_init_24 : decode cX6_init 24 = .ok (.iconst 0, 1) := by decide +kernel
theorem dX6_init_25 : decode cX6_init 25 = .ok (.putfield 22, 3) := by decide +kernel
theorem dX6_init_28 : decode cX6_init 28 = .ok (.aload_n 0, 1) := by decide +kernel
theorem dX6_init_29 : decode cX6_init 29 = .ok (.iconst 0, 1) := by decide +kernel
theorem dX6_init_30 : decode cX6_init 30 = .ok (.putfield 25, 3) := by decide +kernel
theorem dX6_init_33 : decode cX6_init 33 = .ok (.aload_n 0, 1) := by decide +kernel
theorem dX6_init_34 : decode cX6_init 34 = .ok (.iconst 0, 1) := by decide +kernel
theorem dX6_init_35 : decode cX6_init 35 = .ok (.putfield 29, 3) := by decide +kernel
theorem dX6_init_38 : decode cX6_init 38 = .ok (.aload_n 0, 1) := by decide +kernel
theorem dX6_init_39 : decode cX6_init 39 = .ok (.iconst (-1), 1) := by decide +kernel
theorem dX6_init_40 : decode cX6_init 40 = .ok (.putfield 32, 3) := by decide +kernel
theorem dX6_init_43 : decode cX6_init 43 = .ok (.return_, 1) := by decide +kernel
theorem dX6_scan_0 : decode cX6_scan 0 = .ok (.aload_n 0, 1) := by decide +kernel
theorem dX6_scan_1 : decode cX6_scan 1 = .ok (.iload_n 3, 1) := by decide +kernel
theorem dX6_scan_2 : decode cX6_scan 2 = .ok (.putfield 25, 3) := by decide +kernel
theorem dX6_scan_5 : decode cX6_scan 5 = .ok (.aload_n 0, 1) := by decide +kernel
theorem dX6_scan_6 : decode cX6_scan 6 = .ok (.iconst 0, 1) := by decide +kernel
theorem dX6_scan_7 : decode cX6_scan 7 = .ok (.putfield 29, 3) := by decide +kernel
theorem dX6_scan_10 : decode cX6_scan 10 = .ok (.aload_n 0, 1) := by decide +kernel
theorem dX6_scan_11 : decode cX6_scan 11 = .ok (.iconst (-1), 1) := by decide +kernel
theorem dX6_scan_12 : decode cX6_scan 12 = .ok (.putfield 32, 3) := by decide +kernel
theorem dX6_scan_15 : decode cX6_scan 15 = .ok (.aload_n 0, 1) := by decide +kernel
theorem dX6_scan_16 : decode cX6_scan 16 = .ok (.iconst 0, 1) := by decide +kernel
theorem dX6_scan_17 : decode cX6_scan 17 = .ok (.putfield 18, 3) := by decide +kernel
theorem dX6_scan_20 : decode cX6_scan 20 = .ok (.aload_n 0, 1) := by decide +kernel
theorem dX6_scan_21 : decode cX6_scan 21 = .ok (.iconst 0, 1) := by decide +kernel
theorem dX6_scan_22 : decode cX6_scan 22 = .ok (.putfield 22, 3) := by decide +kernel
theorem dX6_scan_25 : decode cX6_scan 25 = .ok (.iconst 0, 1) := by decide +kernel
theorem dX6_scan_26 : decode cX6_scan 26 = .ok (.istore 4, 2) := by decide +kernel
theorem dX6_scan_28 : decode cX6_scan 28 = .ok (.iconst 0, 1) := by decide +kernel
theorem dX6_scan_29 : decode cX6_scan 29 = .ok (.istore 5, 2) := by decide +kernel
theorem dX6_scan_31 : decode cX6_scan 31 = .ok (.iload 5, 2) := by decide +kernel
theorem dX6_scan_33 : decode cX6_scan 33 = .ok (.iload_n 2, 1) := by decide +kernel
theorem dX6_scan_34 : decode cX6_scan 34 = .ok (.if_icmp .ge 55, 3) := by decide +kernel
theorem dX6_scan_37 : decode cX6_scan 37 = .ok (.iload 4, 2) := by decide +kernel
theorem dX6_scan_39 : decode cX6_scan 39 = .ok (.iload_n 2, 1) := by decide +kernel
theorem dX6_scan_40 : decode cX6_scan 40 = .ok (.if_icmp .ge 49, 3) := by decide +kernel
theorem dX6_scan_43 : decode cX6_scan 43 = .ok (.aload_n 0, 1) := by decide +kernel
theorem dX6_scan_44 : decode cX6_scan 44 = .ok (.aload_n 1, 1) := by decide +kernel
theorem dX6_scan_45 : decode cX6_scan 45 = .ok (.iload 4, 2) := by decide +kernel
theorem dX6_scan_47 : decode cX6_scan 47 = .ok (.iload_n 2, 1) := by decide +kernel
theorem dX6_scan_48 : decode cX6_scan 48 = .ok (.invokevirtual 35, 3) := by decide +kernel
theorem dX6_scan_51 : decode cX6_scan 51 = .ok (.istore 6, 2) := by decide +kernel
theorem dX6_scan_53 : decode cX6_scan 53 = .ok (.aload_n 0, 1) := by decide +kernel
theorem dX6_scan_54 : decode cX6_scan 54 = .ok (.aload_n 1, 1) := by decide +kernel
theorem dX6_scan_55 : decode cX6_scan 55 = .ok (.iload 4, 2) := by decide +kernel
theorem dX6_scan_57 : decode cX6_scan 57 = .ok (.iload 6, 2) := by decide +kernel
theorem dX6_scan_59 : decode cX6_scan 59 = .ok (.invokevirtual 39, 3) := by decide +kernel
theorem dX6_scan_62 : decode cX6_scan 62 = .ok (.istore 7, 2) := by decide +kernel
theorem dX6_scan_64 : decode cX6_scan 64 = .ok (.iload 7, 2) := by decide +kernel
theorem dX6_scan_66 : decode cX6_scan 66 = .ok (.ifCond .eq 13, 3) := by decide +kernel
theorem dX6_scan_69 : decode cX6_scan 69 = .ok (.sipush (-1000), 3) := by decide +kernel
theorem dX6_scan_72 : decode cX6_scan 72 = .ok (.iload 7, 2) := by decide +kernel
theorem dX6_scan_74 : decode cX6_scan 74 = .ok (.imul, 1) := by decide +kernel
theorem dX6_scan_75 : decode cX6_scan 75 = .ok (.iload 4, 2) := by decide +kernel
theorem dX6_scan_77 : decode cX6_scan 77 = .ok (.isub, 1) := by decide +kernel
theorem dX6_scan_78 : decode cX6_scan 78 = .ok (.ireturn, 1) := by decide +kernel
theorem dX6_scan_79 : decode cX6_scan 79 = .ok (.iload 6, 2) := by decide +kernel
theorem dX6_scan_81 : decode cX6_scan 81 = .ok (.istore 4, 2) := by decide +kernel
theorem dX6_scan_83 : decode cX6_scan 83 = .ok (.iinc 5 1, 3) := by decide +kernel
theorem dX6_scan_86 : decode cX6_scan 86 = .ok (.goto (-55), 3) := by decide +kernel
theorem dX6_scan_89 : decode cX6_scan 89 = .ok (.aload_n 0, 1) := by decide +kernel
theorem dX6_scan_90 : decode cX6_scan 90 = .ok (.getfield 29, 3) := by decide +kernel
theorem dX6_scan_93 : decode cX6_scan 93 = .ok (.ifCond .eq 20, 3) := by decide +kernel
theorem dX6_scan_96 : decode cX6_scan 96 = .ok (.aload_n 0, 1) := by decide +kernel
theorem dX6_scan_97 : decode cX6_scan 97 = .ok (.getfield 22, 3) := by decide +kernel
theorem dX6_scan_100 : decode cX6_scan 100 = .ok (.aload_n 0, 1) := by decide +kernel
theorem dX6_scan_101 : decode cX6_scan 101 = .ok (.getfield 18, 3) := by decide +kernel
theorem dX6_scan_104 : decode cX6_scan 104 = .ok (.iconst 1, 1) := by decide +kernel
theorem dX6_scan_105 : decode cX6_scan 105 = .ok (.isub, 1) := by decide +kernel
theorem dX6_scan_106 : decode cX6_scan 106 = .ok (.if_icmp .ne 7, 3) := by decide +kernel
theorem dX6_scan_109 : decode cX6_scan 109 = .ok (.iconst 1, 1) := by decide +kernel
theorem dX6_scan_110 : decode cX6_scan 110 = .ok (.goto 4, 3) := by decide +kernel
theorem dX6_scan_113 : decode cX6_scan 113 = .ok (.iconst 0, 1) := by decide +kernel
theorem dX6_scan_114 : decode cX6_scan 114 = .ok (.istore 5, 2) := by decide +kernel
theorem dX6_scan_116 : decode cX6_scan 116 = .ok (.iload 5, 2) := by decide +kernel
theorem dX6_scan_118 : decode cX6_scan 118 = .ok (.ifCond .eq 7, 3) := by decide +kernel
theorem dX6_scan_121 : decode cX6_scan 121 = .ok (.iconst 0, 1) := by decide +kernel
theorem dX6_scan_122 : decode cX6_scan 122 = .ok (.goto 8, 3) := by decide +kernel
theorem dX6_scan_125 : decode cX6_scan 125 = .ok (.sipush (-1000), 3) := by decide +kernel
theorem dX6_scan_128 : decode cX6_scan 128 = .ok (.iload_n 2, 1) := by decide +kernel
theorem dX6_scan_129 : decode cX6_scan 129 = .ok (.isub, 1) := by decide +kernel
theorem dX6_scan_130 : decode cX6_scan 130 = .ok (.ireturn, 1) := by decide +kernel
theorem dX6_tokenEnd_0 : decode cX6_tokenEnd 0 = .ok (.iload_n 2, 1) := by decide +kernel
theorem dX6_tokenEnd_1 : decode cX6_tokenEnd 1 = .ok (.istore 4, 2) := by decide +kernel
theorem dX6_tokenEnd_3 : decode cX6_tokenEnd 3 = .ok (.aload_n 1, 1) := by decide +kernel
theorem dX6_tokenEnd_4 : decode cX6_tokenEnd 4 = .ok (.iload_n 2, 1) := by decide +kernel
theorem dX6_tokenEnd_5 : decode cX6_tokenEnd 5 = .ok (.invokevirtual 42, 3) := by decide +kernel
theorem dX6_tokenEnd_8 : decode cX6_tokenEnd 8 = .ok (.bipush 45, 2) := by decide +kernel
theorem dX6_tokenEnd_10 : decode cX6_tokenEnd 10 = .ok (.if_icmp .ne 6, 3) := by decide +kernel
theorem dX6_tokenEnd_13 : decode cX6_tokenEnd 13 = .ok (.iinc 4 1, 3) := by decide +kernel
theorem dX6_tokenEnd_16 : decode cX6_tokenEnd 16 = .ok (.iload 4, 2) := by decide +kernel
theorem dX6_tokenEnd_18 : decode cX6_tokenEnd 18 = .ok (.iload_n 3, 1) := by decide +kernel
theorem dX6_tokenEnd_19 : decode cX6_tokenEnd 19 = .ok (.if_icmp .ge 18, 3) := by decide +kernel
theorem dX6_tokenEnd_22 : decode cX6_tokenEnd 22 = .ok (.aload_n 1, 1) := by decide +kernel
theorem dX6_tokenEnd_23 : decode cX6_tokenEnd 23 = .ok (.iload 4, 2) := by decide +kernel
theorem dX6_tokenEnd_25 : decode cX6_tokenEnd 25 = .ok (.invokevirtual 48, 3) := by decide +kernel
theorem dX6_tokenEnd_28 : decode cX6_tokenEnd 28 = .ok (.ifCond .eq 9, 3) := by decide +kernel
theorem dX6_tokenEnd_31 : decode cX6_tokenEnd 31 = .ok (.iinc 4 1, 3) := by decide +kernel
theorem dX6_tokenEnd_34 : decode cX6_tokenEnd 34 = .ok (.goto (-18), 3) := by decide +kernel
theorem dX6_tokenEnd_37 : decode cX6_tokenEnd 37 = .ok (.iload 4, 2) := by decide +kernel
theorem dX6_tokenEnd_39 : decode cX6_tokenEnd 39 = .ok (.iload_n 2, 1) := by decide +kernel
theorem dX6_tokenEnd_40 : decode cX6_tokenEnd 40 = .ok (.if_icmp .le 8, 3) := by decide +kernel
theorem dX6_tokenEnd_43 : decode cX6_tokenEnd 43 = .ok (.iload 4, 2) := by decide +kernel
theorem dX6_tokenEnd_45 : decode cX6_tokenEnd 45 = .ok (.goto 6, 3) := by decide +kernel
theorem dX6_tokenEnd_48 : decode cX6_tokenEnd 48 = .ok (.iload_n 2, 1) := by decide +kernel
theorem dX6_tokenEnd_49 : decode cX6_tokenEnd 49 = .ok (.iconst 1, 1) := by decide +kernel
theorem dX6_tokenEnd_50 : decode cX6_tokenEnd 50 = .ok (.iadd, 1) := by decide +kernel
theorem dX6_tokenEnd_51 : decode cX6_tokenEnd 51 = .ok (.ireturn, 1) := by decide +kernel
theorem dX6_faultOfToken_0 : decode cX6_faultOfToken 0 = .ok (.aload_n 1, 1) := by decide +kernel
theorem dX6_faultOfToken_1 : decode cX6_faultOfToken 1 = .ok (.iload_n 2, 1) := by decide +kernel
theorem dX6_faultOfToken_2 : decode cX6_faultOfToken 2 = .ok (.invokevirtual 42, 3) := by decide +kernel
theorem dX6_faultOfToken_5 : decode cX6_faultOfToken 5 = .ok (.istore 4, 2) := by decide +kernel
theorem dX6_faultOfToken_7 : decode cX6_faultOfToken 7 = .ok (.iload 4, 2) := by decide +kernel
theorem dX6_faultOfToken_9 : decode cX6_faultOfToken 9 = .ok (.bipush 32, 2) := by decide +kernel
theorem dX6_faultOfToken_11 : decode cX6_faultOfToken 11 = .ok (.if_icmp .ne 5, 3) := by decide +kernel
theorem dX6_faultOfToken_14 : decode cX6_faultOfToken 14 = .ok (.iconst 0, 1) := by decide +kernel
theorem dX6_faultOfToken_15 : decode cX6_faultOfToken 15 = .ok (.ireturn, 1) := by decide +kernel
theorem dX6_faultOfToken_16 : decode cX6_faultOfToken 16 = .ok (.iload 4, 2) := by decide +kernel
theorem dX6_faultOfToken_18 : decode cX6_faultOfToken 18 = .ok (.bipush 47, 2) := by decide +kernel
theorem dX6_faultOfToken_20 : decode cX6_faultOfToken 20 = .ok (.if_icmp .ne 40, 3) := by decide +kernel
theorem dX6_faultOfToken_23 : decode cX6_faultOfToken 23 = .ok (.aload_n 0, 1) := by decide +kernel
theorem dX6_faultOfToken_24 : decode cX6_faultOfToken 24 = .ok (.getfield 29, 3) := by decide +kernel
theorem dX6_faultOfToken_27 : decode cX6_faultOfToken 27 = .ok (.ifCond .ne 14, 3) := by decide +kernel
theorem dX6_faultOfToken_30 : decode cX6_faultOfToken 30 = .ok (.aload_n 0, 1) := by decide +kernel
theorem dX6_faultOfToken_31 : decode cX6_faultOfToken 31 = .ok (.getfield 18, 3) := by decide +kernel
theorem dX6_faultOfToken_34 : decode cX6_faultOfToken 34 = .ok (.ifCond .le 7, 3) := by decide +kernel
theorem dX6_faultOfToken_37 : decode cX6_faultOfToken 37 = .ok (.iconst 1, 1) := by decide +kernel
theorem dX6_faultOfToken_38 : decode cX6_faultOfToken 38 = .ok (.goto 4, 3) := by decide +kernel
theorem dX6_faultOfToken_41 : decode cX6_faultOfToken 41 = .ok (.iconst 0, 1) := by decide +kernel
theorem dX6_faultOfToken_42 : decode cX6_faultOfToken 42 = .ok (.istore 5, 2) := by decide +kernel
theorem dX6_faultOfToken_44 : decode cX6_faultOfToken 44 = .ok (.aload_n 0, 1) := by decide +kernel
theorem dX6_faultOfToken_45 : decode cX6_faultOfToken 45 = .ok (.iconst 1, 1) := by decide +kernel
theorem dX6_faultOfToken_46 : decode cX6_faultOfToken 46 = .ok (.putfield 29, 3) := by decide +kernel
theorem dX6_faultOfToken_49 : decode cX6_faultOfToken 49 = .ok (.iload 5, 2) := by decide +kernel
theorem dX6_faultOfToken_51 : decode cX6_faultOfToken 51 = .ok (.ifCond .eq 7, 3) := by decide +kernel
theorem dX6_faultOfToken_54 : decode cX6_faultOfToken 54 = .ok (.iconst 0, 1) := by decide +kernel
theorem dX6_faultOfToken_55 : decode cX6_faultOfToken 55 = .ok (.goto 4, 3) := by decide +kernel
theorem dX6_faultOfToken_58 : decode cX6_faultOfToken 58 = .ok (.iconst 1, 1) := by decide +kernel
theorem dX6_faultOfToken_59 : decode cX6_faultOfToken 59 = .ok (.ireturn, 1) := by decide +kernel
theorem dX6_faultOfToken_60 : decode cX6_faultOfToken 60 = .ok (.aload_n 1, 1) := by decide +kernel
theorem dX6_faultOfToken_61 : decode cX6_faultOfToken 61 = .ok (.iload_n 3, 1) := by decide +kernel
theorem dX6_faultOfToken_62 : decode cX6_faultOfToken 62 = .ok (.iconst 1, 1) := by decide +kernel
theorem dX6_faultOfToken_63 : decode cX6_faultOfToken 63 = .ok (.isub, 1) := by decide +kernel
theorem dX6_faultOfToken_64 : decode cX6_faultOfToken 64 = .ok (.invokevirtual 48, 3) := by decide +kernel
theorem dX6_faultOfToken_67 : decode cX6_faultOfToken 67 = .ok (.ifCond .eq 11, 3) := by decide +kernel
theorem dX6_faultOfToken_70 : decode cX6_faultOfToken 70 = .ok (.iload_n 2, 1) := by decide +kernel
theorem dX6_faultOfToken_71 : decode cX6_faultOfToken 71 = .ok (.aload_n 0, 1) := by decide +kernel
theorem dX6_faultOfToken_72 : decode cX6_faultOfToken 72 = .ok (.getfield 32, 3) := by decide +kernel
theorem dX6_faultOfToken_75 : decode cX6_faultOfToken 75 = .ok (.if_icmp .ne 5, 3) := by decide +kernel
theorem dX6_faultOfToken_78 : decode cX6_faultOfToken 78 = .ok (.iconst 1, 1) := by decide +kernel
theorem dX6_faultOfToken_79 : decode cX6_faultOfToken 79 = .ok (.ireturn, 1) := by decide +kernel
theorem dX6_faultOfToken_80 : decode cX6_faultOfToken 80 = .ok (.aload_n 0, 1) := by decide +kernel
theorem dX6_faultOfToken_81 : decode cX6_faultOfToken 81 = .ok (.iload_n 3, 1) := by decide +kernel
theorem dX6_faultOfToken_82 : decode cX6_faultOfToken 82 = .ok (.putfield 32, 3) := by decide +kernel
theorem dX6_faultOfToken_85 : decode cX6_faultOfToken 85 = .ok (.aload_n 0, 1) := by decide +kernel
theorem dX6_faultOfToken_86 : decode cX6_faultOfToken 86 = .ok (.aload_n 1, 1) := by decide +kernel
theorem dX6_faultOfToken_87 : decode cX6_faultOfToken 87 = .ok (.iload_n 2, 1) := by decide +kernel
theorem dX6_faultOfToken_88 : decode cX6_faultOfToken 88 = .ok (.iload_n 3, 1) := by decide +kernel
theorem dX6_faultOfToken_89 : decode cX6_faultOfToken 89 = .ok (.invokevirtual 52, 3) := by decide +kernel
theorem dX6_faultOfToken_92 : decode cX6_faultOfToken 92 = .ok (.istore 5, 2) := by decide +kernel
theorem dX6_faultOfToken_94 : decode cX6_faultOfToken 94 = .ok (.aload_n 0, 1) := by decide +kernel
theorem dX6_faultOfToken_95 : decode cX6_faultOfToken 95 = .ok (.getfield 29, 3) := by decide +kernel
theorem dX6_faultOfToken_98 : decode cX6_faultOfToken 98 = .ok (.ifCond .eq 12, 3) := by decide +kernel
theorem dX6_faultOfToken_101 : decode cX6_faultOfToken 101 = .ok (.aload_n 0, 1) := by decide +kernel
theorem dX6_faultOfToken_102 : decode cX6_faultOfToken 102 = .ok (.iload 5, 2) := by decide +kernel
theorem dX6_faultOfToken_104 : decode cX6_faultOfToken 104 = .ok (.invokevirtual 55, 3) := by decide +kernel
theorem dX6_faultOfToken_107 : decode cX6_faultOfToken 107 = .ok (.goto 9, 3) := by decide +kernel
theorem dX6_faultOfToken_110 : decode cX6_faultOfToken 110 = .ok (.aload_n 0, 1) := by decide +kernel
theorem dX6_faultOfToken_111 : decode cX6_faultOfToken 111 = .ok (.iload 5, 2) := by decide +kernel
theorem dX6_faultOfToken_113 : decode cX6_faultOfToken 113 = .ok (.invokevirtual 58, 3) := by decide +kernel
theorem dX6_faultOfToken_116 : decode cX6_faultOfToken 116 = .ok (.ireturn, 1) := by decide +kernel
theorem dX6_numberOf_0 : decode cX6_numberOf 0 = .ok (.aload_n 1, 1) := by decide +kernel
theorem dX6_numberOf_1 : decode cX6_numberOf 1 = .ok (.iload_n 2, 1) := by decide +kernel
theorem dX6_numberOf_2 : decode cX6_numberOf 2 = .ok (.invokevirtual 42, 3) := by decide +kernel
theorem dX6_numberOf_5 : decode cX6_numberOf 5 = .ok (.bipush 45, 2) := by decide +kernel
theorem dX6_numberOf_7 : decode cX6_numberOf 7 = .ok (.if_icmp .ne 7, 3) := by decide +kernel
theorem dX6_numberOf_10 : decode cX6_numberOf 10 = .ok (.iconst 1, 1) := by decide +kernel
theorem dX6_numberOf_11 : decode cX6_numberOf 11 = .ok (.goto 4, 3) := by decide +kernel
theorem dX6_numberOf_14 : decode cX6_numberOf 14 = .ok (.iconst 0, 1) := by decide +kernel
theorem dX6_numberOf_15 : decode cX6_numberOf 15 = .ok (.istore 4, 2) := by decide +kernel
theorem dX6_numberOf_17 : decode cX6_numberOf 17 = .ok (.iconst 0, 1) := by decide +kernel
theorem dX6_numberOf_18 : decode cX6_numberOf 18 = .ok (.istore 5, 2) := by decide +kernel
theorem dX6_numberOf_20 : decode cX6_numberOf 20 = .ok (.iload 4, 2) := by decide +kernel
theorem dX6_numberOf_22 : decode cX6_numberOf 22 = .ok (.ifCond .eq 9, 3) := by decide +kernel
theorem dX6_numberOf_25 : decode cX6_numberOf 25 = .ok (.iload_n 2, 1) := by decide +kernel
theorem dX6_numberOf_26 : decode cX6_numberOf 26 = .ok (.iconst 1, 1) := by decide +kernel
theorem dX6_numberOf_27 : decode cX6_numberOf 27 = .ok (.iadd, 1) := by decide +kernel
theorem dX6_numberOf_28 : decode cX6_numberOf 28 = .ok (.goto 4, 3) := by decide +kernel
theorem dX6_numberOf_31 : decode cX6_numberOf 31 = .ok (.iload_n 2, 1) := by decide +kernel
theorem dX6_numberOf_32 : decode cX6_numberOf 32 = .ok (.istore 6, 2) := by decide +kernel
theorem dX6_numberOf_34 : decode cX6_numberOf 34 = .ok (.iload 6, 2) := by decide +kernel
theorem dX6_numberOf_36 : decode cX6_numberOf 36 = .ok (.iload_n 3, 1) := by decide +kernel
theorem dX6_numberOf_37 : decode cX6_numberOf 37 = .ok (.if_icmp .ge 32, 3) := by decide +kernel
theorem dX6_numberOf_40 : decode cX6_numberOf 40 = .ok (.sipush 1000, 3) := by decide +kernel
theorem dX6_numberOf_43 : decode cX6_numberOf 43 = .ok (.bipush 10, 2) := by decide +kernel
theorem dX6_numberOf_45 : decode cX6_numberOf 45 = .ok (.iload 5, 2) := by decide +kernel
theorem dX6_numberOf_47 : decode cX6_numberOf 47 = .ok (.imul, 1) := by decide +kernel
theorem dX6_numberOf_48 : decode cX6_numberOf 48 = .ok (.aload_n 1, 1) := by decide +kernel
theorem dX6_numberOf_49 : decode cX6_numberOf 49 = .ok (.iload 6, 2) := by decide +kernel
theorem dX6_numberOf_51 : decode cX6_numberOf 51 = .ok (.invokevirtual 42, 3) := by decide +kernel
theorem dX6_numberOf_54 : decode cX6_numberOf 54 = .ok (.iadd, 1) := by decide +kernel
theorem dX6_numberOf_55 : decode cX6_numberOf 55 = .ok (.bipush 48, 2) := by decide +kernel
theorem dX6_numberOf_57 : decode cX6_numberOf 57 = .ok (.isub, 1) := by decide +kernel
theorem dX6_numberOf_58 : decode cX6_numberOf 58 = .ok (.invokestatic 61, 3) := by decide +kernel
theorem dX6_numberOf_61 : decode cX6_numberOf 61 = .ok (.istore 5, 2) := by decide +kernel
theorem dX6_numberOf_63 : decode cX6_numberOf 63 = .ok (.iinc 6 1, 3) := by decide +kernel
theorem dX6_numberOf_66 : decode cX6_numberOf 66 = .ok (.goto (-32), 3) := by decide +kernel
theorem dX6_numberOf_69 : decode cX6_numberOf 69 = .ok (.iload 4, 2) := by decide +kernel
theorem dX6_numberOf_71 : decode cX6_numberOf 71 = .ok (.ifCond .eq 9, 3) := by decide +kernel
theorem dX6_numberOf_74 : decode cX6_numberOf 74 = .ok (.iload 5, 2) := by decide +kernel
theorem dX6_numberOf_76 : decode cX6_numberOf 76 = .ok (.ineg, 1) := by decide +kernel
theorem dX6_numberOf_77 : decode cX6_numberOf 77 = .ok (.goto 5, 3) := by decide +kernel
theorem dX6_numberOf_80 : decode cX6_numberOf 80 = .ok (.iload 5, 2) := by decide +kernel
theorem dX6_numberOf_82 : decode cX6_numberOf 82 = .ok (.ireturn, 1) := by decide +kernel
theorem dX6_faultOfFirst_0 : decode cX6_faultOfFirst 0 = .ok (.iload_n 1, 1) := by decide +kernel
theorem dX6_faultOfFirst_1 : decode cX6_faultOfFirst 1 = .ok (.bipush (-6), 2) := by decide +kernel
theorem dX6_faultOfFirst_3 : decode cX6_faultOfFirst 3 = .ok (.bipush 6, 2) := by decide +kernel
theorem dX6_faultOfFirst_5 : decode cX6_faultOfFirst 5 = .ok (.invokestatic 67, 3) := by decide +kernel
theorem dX6_faultOfFirst_8 : decode cX6_faultOfFirst 8 = .ok (.ifCond .ne 5, 3) := by decide +kernel
theorem dX6_faultOfFirst_11 : decode cX6_faultOfFirst 11 = .ok (.iconst 2, 1) := by decide +kernel
theorem dX6_faultOfFirst_12 : decode cX6_faultOfFirst 12 = .ok (.ireturn, 1) := by decide +kernel
theorem dX6_faultOfFirst_13 : decode cX6_faultOfFirst 13 = .ok (.aload_n 0, 1) := by decide +kernel
theorem dX6_faultOfFirst_14 : decode cX6_faultOfFirst 14 = .ok (.getfield 18, 3) := by decide +kernel
theorem dX6_faultOfFirst_17 : decode cX6_faultOfFirst 17 = .ok (.aload_n 0, 1) := by decide +kernel
theorem dX6_faultOfFirst_18 : decode cX6_faultOfFirst 18 = .ok (.getfield 25, 3) := by decide +kernel
theorem dX6_faultOfFirst_21 : decode cX6_faultOfFirst 21 = .ok (.ifCond .eq 7, 3) := by decide +kernel
theorem dX6_faultOfFirst_24 : decode cX6_faultOfFirst 24 = .ok (.iconst 4, 1) := by decide +kernel
theorem dX6_faultOfFirst_25 : decode cX6_faultOfFirst 25 = .ok (.goto 4, 3) := by decide +kernel
theorem dX6_faultOfFirst_28 : decode cX6_faultOfFirst 28 = .ok (.iconst 5, 1) := by decide +kernel
theorem dX6_faultOfFirst_29 : decode cX6_faultOfFirst 29 = .ok (.if_icmp .lt 5, 3) := by decide +kernel
theorem dX6_faultOfFirst_32 : decode cX6_faultOfFirst 32 = .ok (.iconst 3, 1) := by decide +kernel
theorem dX6_faultOfFirst_33 : decode cX6_faultOfFirst 33 = .ok (.ireturn, 1) := by decide +kernel
theorem dX6_faultOfFirst_34 : decode cX6_faultOfFirst 34 = .ok (.aload_n 0, 1) := by decide +kernel
theorem dX6_faultOfFirst_35 : decode cX6_faultOfFirst 35 = .ok (.getfield 25, 3) := by decide +kernel
theorem dX6_faultOfFirst_38 : decode cX6_faultOfFirst 38 = .ok (.ifCond .eq 27, 3) := by decide +kernel
theorem dX6_faultOfFirst_41 : decode cX6_faultOfFirst 41 = .ok (.aload_n 0, 1) := by decide +kernel
theorem dX6_faultOfFirst_42 : decode cX6_faultOfFirst 42 = .ok (.getfield 18, 3) := by decide +kernel
theorem dX6_faultOfFirst_45 : decode cX6_faultOfFirst 45 = .ok (.ifCond .le 20, 3) := by decide +kernel
theorem dX6_faultOfFirst_48 : decode cX6_faultOfFirst 48 = .ok (.iload_n 1, 1) := by decide +kernel
theorem dX6_faultOfFirst_49 : decode cX6_faultOfFirst 49 = .ok (.aload_n 0, 1) := by decide +kernel
theorem dX6_faultOfFirst_50 : decode cX6_faultOfFirst 50 = .ok (.getfield 9, 3) := by decide +kernel
theorem dX6_faultOfFirst_53 : decode cX6_faultOfFirst 53 = .ok (.aload_n 0, 1) := by decide +kernel
theorem dX6_faultOfFirst_54 : decode cX6_faultOfFirst 54 = .ok (.getfield 18, 3) := by decide +kernel
theorem dX6_faultOfFirst_57 : decode cX6_faultOfFirst 57 = .ok (.iconst 1, 1) := by decide +kernel
theorem dX6_faultOfFirst_58 : decode cX6_faultOfFirst 58 = .ok (.isub, 1) := by decide +kernel
theorem dX6_faultOfFirst_59 : decode cX6_faultOfFirst 59 = .ok (.iaload, 1) := by decide +kernel
theorem dX6_faultOfFirst_60 : decode cX6_faultOfFirst 60 = .ok (.if_icmp .gt 5, 3) := by decide +kernel
theorem dX6_faultOfFirst_63 : decode cX6_faultOfFirst 63 = .ok (.iconst 4, 1) := by decide +kernel
theorem dX6_faultOfFirst_64 : decode cX6_faultOfFirst 64 = .ok (.ireturn, 1) := by decide +kernel
theorem dX6_faultOfFirst_65 : decode cX6_faultOfFirst 65 = .ok (.aload_n 0, 1) := by decide +kernel
theorem dX6_faultOfFirst_66 : decode cX6_faultOfFirst 66 = .ok (.getfield 9, 3) := by decide +kernel
theorem dX6_faultOfFirst_69 : decode cX6_faultOfFirst 69 = .ok (.aload_n 0, 1) := by decide +kernel
theorem dX6_faultOfFirst_70 : decode cX6_faultOfFirst 70 = .ok (.getfield 18, 3) := by decide +kernel
theorem dX6_faultOfFirst_73 : decode cX6_faultOfFirst 73 = .ok (.iload_n 1, 1) := by decide +kernel
theorem dX6_faultOfFirst_74 : decode cX6_faultOfFirst 74 = .ok (.iastore, 1) := by decide +kernel
theorem dX6_faultOfFirst_75 : decode cX6_faultOfFirst 75 = .ok (.aload_n 0, 1) := by decide +kernel
theorem dX6_faultOfFirst_76 : decode cX6_faultOfFirst 76 = .ok (.dup, 1) := by decide +kernel
theorem dX6_faultOfFirst_77 : decode cX6_faultOfFirst 77 = .ok (.getfield 18, 3) := by decide +kernel
theorem dX6_faultOfFirst_80 : decode cX6_faultOfFirst 80 = .ok (.iconst 1, 1) := by decide +kernel
theorem dX6_faultOfFirst_81 : decode cX6_faultOfFirst 81 = .ok (.iadd, 1) := by decide +kernel
theorem dX6_faultOfFirst_82 : decode cX6_faultOfFirst 82 = .ok (.putfield 18, 3) := by decide +kernel
theorem dX6_faultOfFirst_85 : decode cX6_faultOfFirst 85 = .ok (.iconst 0, 1) := by decide +kernel
theorem dX6_faultOfFirst_86 : decode cX6_faultOfFirst 86 = .ok (.ireturn, 1) := by decide +kernel
theorem dX6_faultOfSecond_0 : decode cX6_faultOfSecond 0 = .ok (.aload_n 0, 1) := by decide +kernel
theorem dX6_faultOfSecond_1 : decode cX6_faultOfSecond 1 = .ok (.getfield 25, 3) := by decide +kernel
theorem dX6_faultOfSecond_4 : decode cX6_faultOfSecond 4 = .ok (.ifCond .eq 14, 3) := by decide +kernel
theorem dX6_faultOfSecond_7 : decode cX6_faultOfSecond 7 = .ok (.iload_n 1, 1) := by decide +kernel
theorem dX6_faultOfSecond_8 : decode cX6_faultOfSecond 8 = .ok (.bipush (-6), 2) := by decide +kernel
theorem dX6_faultOfSecond_10 : decode cX6_faultOfSecond 10 = .ok (.bipush 6, 2) := by decide +kernel
theorem dX6_faultOfSecond_12 : decode cX6_faultOfSecond 12 = .ok (.invokestatic 67, 3) := by decide +kernel
theorem dX6_faultOfSecond_15 : decode cX6_faultOfSecond 15 = .ok (.goto 10, 3) := by decide +kernel
theorem dX6_faultOfSecond_18 : decode cX6_faultOfSecond 18 = .ok (.iload_n 1, 1) := by decide +kernel
theorem dX6_faultOfSecond_19 : decode cX6_faultOfSecond 19 = .ok (.iconst 1, 1) := by decide +kernel
theorem dX6_faultOfSecond_20 : decode cX6_faultOfSecond 20 = .ok (.bipush 36, 2) := by decide +kernel
theorem dX6_faultOfSecond_22 : decode cX6_faultOfSecond 22 = .ok (.invokestatic 67, 3) := by decide +kernel
theorem dX6_faultOfSecond_25 : decode cX6_faultOfSecond 25 = .ok (.istore_n 2, 1) := by decide +kernel
theorem dX6_faultOfSecond_26 : decode cX6_faultOfSecond 26 = .ok (.iload_n 2, 1) := by decide +kernel
theorem dX6_faultOfSecond_27 : decode cX6_faultOfSecond 27 = .ok (.ifCond .ne 5, 3) := by decide +kernel
theorem dX6_faultOfSecond_30 : decode cX6_faultOfSecond 30 = .ok (.iconst 2, 1) := by decide +kernel
theorem dX6_faultOfSecond_31 : decode cX6_faultOfSecond 31 = .ok (.ireturn, 1) := by decide +kernel
theorem dX6_faultOfSecond_32 : decode cX6_faultOfSecond 32 = .ok (.aload_n 0, 1) := by decide +kernel
theorem dX6_faultOfSecond_33 : decode cX6_faultOfSecond 33 = .ok (.getfield 22, 3) := by decide +kernel
theorem dX6_faultOfSecond_36 : decode cX6_faultOfSecond 36 = .ok (.aload_n 0, 1) := by decide +kernel
theorem dX6_faultOfSecond_37 : decode cX6_faultOfSecond 37 = .ok (.getfield 18, 3) := by decide +kernel
theorem dX6_faultOfSecond_40 : decode cX6_faultOfSecond 40 = .ok (.iconst 1, 1) := by decide +kernel
theorem dX6_faultOfSecond_41 : decode cX6_faultOfSecond 41 = .ok (.isub, 1) := by decide +kernel
theorem dX6_faultOfSecond_42 : decode cX6_faultOfSecond 42 = .ok (.if_icmp .lt 5, 3) := by decide +kernel
theorem dX6_faultOfSecond_45 : decode cX6_faultOfSecond 45 = .ok (.iconst 3, 1) := by decide +kernel
theorem dX6_faultOfSecond_46 : decode cX6_faultOfSecond 46 = .ok (.ireturn, 1) := by decide +kernel
theorem dX6_faultOfSecond_47 : decode cX6_faultOfSecond 47 = .ok (.aload_n 0, 1) := by decide +kernel
theorem dX6_faultOfSecond_48 : decode cX6_faultOfSecond 48 = .ok (.getfield 25, 3) := by decide +kernel
theorem dX6_faultOfSecond_51 : decode cX6_faultOfSecond 51 = .ok (.ifCond .eq 27, 3) := by decide +kernel
theorem dX6_faultOfSecond_54 : decode cX6_faultOfSecond 54 = .ok (.aload_n 0, 1) := by decide +kernel
theorem dX6_faultOfSecond_55 : decode cX6_faultOfSecond 55 = .ok (.getfield 22, 3) := by decide +kernel
theorem dX6_faultOfSecond_58 : decode cX6_faultOfSecond 58 = .ok (.ifCond .le 20, 3) := by decide +kernel
theorem dX6_faultOfSecond_61 : decode cX6_faultOfSecond 61 = .ok (.iload_n 1, 1) := by decide +kernel
theorem dX6_faultOfSecond_62 : decode cX6_faultOfSecond 62 = .ok (.aload_n 0, 1) := by decide +kernel
theorem dX6_faultOfSecond_63 : decode cX6_faultOfSecond 63 = .ok (.getfield 15, 3) := by decide +kernel
theorem dX6_faultOfSecond_66 : decode cX6_faultOfSecond 66 = .ok (.aload_n 0, 1) := by decide +kernel
theorem dX6_faultOfSecond_67 : decode cX6_faultOfSecond 67 = .ok (.getfield 22, 3) := by decide +kernel
theorem dX6_faultOfSecond_70 : decode cX6_faultOfSecond 70 = .ok (.iconst 1, 1) := by decide +kernel
theorem dX6_faultOfSecond_71 : decode cX6_faultOfSecond 71 = .ok (.isub, 1) := by decide +kernel
theorem dX6_faultOfSecond_72 : decode cX6_faultOfSecond 72 = .ok (.iaload, 1) := by decide +kernel
theorem dX6_faultOfSecond_73 : decode cX6_faultOfSecond 73 = .ok (.if_icmp .gt 5, 3) := by decide +kernel
theorem dX6_faultOfSecond_76 : decode cX6_faultOfSecond 76 = .ok (.iconst 4, 1) := by decide +kernel
theorem dX6_faultOfSecond_77 : decode cX6_faultOfSecond 77 = .ok (.ireturn, 1) := by decide +kernel
theorem dX6_faultOfSecond_78 : decode cX6_faultOfSecond 78 = .ok (.aload_n 0, 1) := by decide +kernel
theorem dX6_faultOfSecond_79 : decode cX6_faultOfSecond 79 = .ok (.getfield 25, 3) := by decide +kernel
theorem dX6_faultOfSecond_82 : decode cX6_faultOfSecond 82 = .ok (.ifCond .eq 33, 3) := by decide +kernel
theorem dX6_faultOfSecond_85 : decode cX6_faultOfSecond 85 = .ok (.iload_n 1, 1) := by decide +kernel
theorem dX6_faultOfSecond_86 : decode cX6_faultOfSecond 86 = .ok (.aload_n 0, 1) := by decide +kernel
theorem dX6_faultOfSecond_87 : decode cX6_faultOfSecond 87 = .ok (.getfield 9, 3) := by decide +kernel
theorem dX6_faultOfSecond_90 : decode cX6_faultOfSecond 90 = .ok (.aload_n 0, 1) := by decide +kernel
theorem dX6_faultOfSecond_91 : decode cX6_faultOfSecond 91 = .ok (.getfield 22, 3) := by decide +kernel
theorem dX6_faultOfSecond_94 : decode cX6_faultOfSecond 94 = .ok (.iaload, 1) := by decide +kernel
theorem dX6_faultOfSecond_95 : decode cX6_faultOfSecond 95 = .ok (.if_icmp .le 18, 3) := by decide +kernel
theorem dX6_faultOfSecond_98 : decode cX6_faultOfSecond 98 = .ok (.iload_n 1, 1) := by decide +kernel
theorem dX6_faultOfSecond_99 : decode cX6_faultOfSecond 99 = .ok (.aload_n 0, 1) := by decide +kernel
theorem dX6_faultOfSecond_100 : decode cX6_faultOfSecond 100 = .ok (.getfield 9, 3) := by decide +kernel
theorem dX6_faultOfSecond_103 : decode cX6_faultOfSecond 103 = .ok (.aload_n 0, 1) := by decide +kernel
theorem dX6_faultOfSecond_104 : decode cX6_faultOfSecond 104 = .ok (.getfield 22, 3) := by decide +kernel
theorem dX6_faultOfSecond_107 : decode cX6_faultOfSecond 107 = .ok (.iconst 1, 1) := by decide +kernel
theorem dX6_faultOfSecond_108 : decode cX6_faultOfSecond 108 = .ok (.iadd, 1) := by decide +kernel
theorem dX6_faultOfSecond_109 : decode cX6_faultOfSecond 109 = .ok (.iaload, 1) := by decide +kernel
theorem dX6_faultOfSecond_110 : decode cX6_faultOfSecond 110 = .ok (.if_icmp .lt 5, 3) := by decide +kernel
theorem dX6_faultOfSecond_113 : decode cX6_faultOfSecond 113 = .ok (.iconst 5, 1) := by decide +kernel
theorem dX6_faultOfSecond_114 : decode cX6_faultOfSecond 114 = .ok (.ireturn, 1) := by decide +kernel
theorem dX6_faultOfSecond_115 : decode cX6_faultOfSecond 115 = .ok (.aload_n 0, 1) := by decide +kernel
theorem dX6_faultOfSecond_116 : decode cX6_faultOfSecond 116 = .ok (.getfield 15, 3) := by decide +kernel
theorem dX6_faultOfSecond_119 : decode cX6_faultOfSecond 119 = .ok (.aload_n 0, 1) := by decide +kernel
theorem dX6_faultOfSecond_120 : decode cX6_faultOfSecond 120 = .ok (.getfield 22, 3) := by decide +kernel
theorem dX6_faultOfSecond_123 : decode cX6_faultOfSecond 123 = .ok (.iload_n 1, 1) := by decide +kernel
theorem dX6_faultOfSecond_124 : decode cX6_faultOfSecond 124 = .ok (.iastore, 1) := by decide +kernel
theorem dX6_faultOfSecond_125 : decode cX6_faultOfSecond 125 = .ok (.aload_n 0, 1) := by decide +kernel
theorem dX6_faultOfSecond_126 : decode cX6_faultOfSecond 126 = .ok (.dup, 1) := by decide +kernel
theorem dX6_faultOfSecond_127 : decode cX6_faultOfSecond 127 = .ok (.getfield 22, 3) := by decide +kernel
theorem dX6_faultOfSecond_130 : decode cX6_faultOfSecond 130 = .ok (.iconst 1, 1) := by decide +kernel
theorem dX6_faultOfSecond_131 : decode cX6_faultOfSecond 131 = .ok (.iadd, 1) := by decide +kernel
theorem dX6_faultOfSecond_132 : decode cX6_faultOfSecond 132 = .ok (.putfield 22, 3) := by decide +kernel
theorem dX6_faultOfSecond_135 : decode cX6_faultOfSecond 135 = .ok (.iconst 0, 1) := by decide +kernel
theorem dX6_faultOfSecond_136 : decode cX6_faultOfSecond 136 = .ok (.ireturn, 1) := by decide +kernel
theorem dX7_init_0 : decode cX7_init 0 = .ok (.aload_n 0, 1) := by decide +kernel
theorem dX7_init_1 : decode cX7_init 1 = .ok (.invokespecial 3, 3) := by decide +kernel
theorem dX7_init_4 : decode cX7_init 4 = .ok (.aload_n 0, 1) := by decide +kernel
theorem dX7_init_5 : decode cX7_init 5 = .ok (.iconst 0, 1) := by decide +kernel
theorem dX7_init_6 : decode cX7_init 6 = .ok (.putfield 9, 3) := by decide +kernel
theorem dX7_init_9 : decode cX7_init 9 = .ok (.aload_n 0, 1) := by decide +kernel
theorem dX7_init_10 : decode cX7_init 10 = .ok (.iconst 5, 1) := by decide +kernel
theorem dX7_init_11 : decode cX7_init 11 = .ok (.newarray .long, 2) := by decide +kernel
theorem dX7_init_13 : decode cX7_init 13 = .ok (.putfield 15, 3) := by decide +kernel
theorem dX7_init_16 : decode cX7_init 16 = .ok (.aload_n 0, 1) := by decide +kernel
theorem dX7_init_17 : decode cX7_init 17 = .ok (.iconst 4, 1) := by decide +kernel
theorem dX7_init_18 : decode cX7_init 18 = .ok (.newarray .long, 2) := by decide +kernel
theorem dX7_init_20 : decode cX7_init 20 = .ok (.putfield 19, 3) := by decide +kernel
theorem dX7_init_23 : decode cX7_init 23 = .ok (.aload_n 0, 1) := by decide +kernel
theorem dX7_init_24 : decode cX7_init 24 = .ok (.bipush 8, 2) := by decide +kernel
theorem dX7_init_26 : decode cX7_init 26 = .ok (.newarray .long, 2) := by decide +kernel
theorem dX7_init_28 : decode cX7_init 28 = .ok (.putfield 22, 3) := by decide +kernel
theorem dX7_init_31 : decode cX7_init 31 = .ok (.return_, 1) := by decide +kernel
theorem dX7_rebuild_0 : decode cX7_rebuild 0 = .ok (.aload_n 0, 1) := by decide +kernel
theorem dX7_rebuild_1 : decode cX7_rebuild 1 = .ok (.aload_n 1, 1) := by decide +kernel
theorem dX7_rebuild_2 : decode cX7_rebuild 2 = .ok (.getfield 25, 3) := by decide +kernel
theorem dX7_rebuild_5 : decode cX7_rebuild 5 = .ok (.putfield 9, 3) := by decide +kernel
theorem dX7_rebuild_8 : decode cX7_rebuild 8 = .ok (.aload_n 1, 1) := by decide +kernel
theorem dX7_rebuild_9 : decode cX7_rebuild 9 = .ok (.getfield 28, 3) := by decide +kernel
theorem dX7_rebuild_12 : decode cX7_rebuild 12 = .ok (.aload_n 0, 1) := by decide +kernel
theorem dX7_rebuild_13 : decode cX7_rebuild 13 = .ok (.getfield 9, 3) := by decide +kernel
theorem dX7_rebuild_16 : decode cX7_rebuild 16 = .ok (.aload_n 0, 1) := by decide +kernel
theorem dX7_rebuild_17 : decode cX7_rebuild 17 = .ok (.getfield 15, 3) := by decide +kernel
theorem dX7_rebuild_20 : decode cX7_rebuild 20 = .ok (.invokestatic 32, 3) := by decide +kernel
theorem dX7_rebuild_23 : decode cX7_rebuild 23 = .ok (.aload_n 1, 1) := by decide +kernel
theorem dX7_rebuild_24 : decode cX7_rebuild 24 = .ok (.getfield 36, 3) := by decide +kernel
theorem dX7_rebuild_27 : decode cX7_rebuild 27 = .ok (.aload_n 0, 1) := by decide +kernel
theorem dX7_rebuild_28 : decode cX7_rebuild 28 = .ok (.getfield 9, 3) := by decide +kernel
theorem dX7_rebuild_31 : decode cX7_rebuild 31 = .ok (.iconst 1, 1) := by decide +kernel
theorem dX7_rebuild_32 : decode cX7_rebuild 32 = .ok (.isub, 1) := by decide +kernel
theorem dX7_rebuild_33 : decode cX7_rebuild 33 = .ok (.aload_n 0, 1) := by decide +kernel
theorem dX7_rebuild_34 : decode cX7_rebuild 34 = .ok (.getfield 19, 3) := by decide +kernel
theorem dX7_rebuild_37 : decode cX7_rebuild 37 = .ok (.invokestatic 32, 3) := by decide +kernel
theorem dX7_rebuild_40 : decode cX7_rebuild 40 = .ok (.iconst 0, 1) := by decide +kernel
theorem dX7_rebuild_41 : decode cX7_rebuild 41 = .ok (.istore_n 2, 1) := by decide +kernel
theorem dX7_rebuild_42 : decode cX7_rebuild 42 = .ok (.iload_n 2, 1) := by decide +kernel
theorem dX7_rebuild_43 : decode cX7_rebuild 43 = .ok (.bipush 7, 2) := by decide +kernel
theorem dX7_rebuild_45 : decode cX7_rebuild 45 = .ok (.if_icmp .gt 91, 3) := by decide +kernel
theorem dX7_rebuild_48 : decode cX7_rebuild 48 = .ok (.iload_n 2, 1) := by decide +kernel
theorem dX7_rebuild_49 : decode cX7_rebuild 49 = .ok (.aload_n 0, 1) := by decide +kernel
theorem dX7_rebuild_50 : decode cX7_rebuild 50 = .ok (.getfield 9, 3) := by decide +kernel
theorem dX7_rebuild_53 : decode cX7_rebuild 53 = .ok (.if_icmp .ge 19, 3) := by decide +kernel
theorem dX7_rebuild_56 : decode cX7_rebuild 56 = .ok (.aload_n 0, 1) := by decide +kernel
theorem dX7_rebuild_57 : decode cX7_rebuild 57 = .ok (.getfield 19, 3) := by decide +kernel
theorem dX7_rebuild_60 : decode cX7_rebuild 60 = .ok (.aload_n 0, 1) := by decide +kernel
theorem dX7_rebuild_61 : decode cX7_rebuild 61 = .ok (.getfield 9, 3) := by decide +kernel
theorem dX7_rebuild_64 : decode cX7_rebuild 64 = .ok (.iconst 1, 1) := by decide +kernel
theorem dX7_rebuild_65 : decode cX7_rebuild 65 = .ok (.isub, 1) := by decide +kernel
theorem dX7_rebuild_66 : decode cX7_rebuild 66 = .ok (.iload_n 2, 1) := by decide +kernel
theorem dX7_rebuild_67 : decode cX7_rebuild 67 = .ok (.isub, 1) := by decide +kernel
theorem dX7_rebuild_68 : decode cX7_rebuild 68 = .ok (.laload, 1) := by decide +kernel
theorem dX7_rebuild_69 : decode cX7_rebuild 69 = .ok (.goto 4, 3) := by decide +kernel
theorem dX7_rebuild_72 : decode cX7_rebuild 72 = .ok (.lconst 0, 1) := by decide +kernel
theorem dX7_rebuild_73 : decode cX7_rebuild 73 = .ok (.lstore_n 3, 1) := by decide +kernel
theorem dX7_rebuild_74 : decode cX7_rebuild 74 = .ok (.iconst 1, 1) := by decide +kernel
theorem dX7_rebuild_75 : decode cX7_rebuild 75 = .ok (.istore 5, 2) := by decide +kernel
theorem dX7_rebuild_77 : decode cX7_rebuild 77 = .ok (.iload 5, 2) := by decide +kernel
theorem dX7_rebuild_79 : decode cX7_rebuild 79 = .ok (.iload_n 2, 1) := by decide +kernel
theorem dX7_rebuild_80 : decode cX7_rebuild 80 = .ok (.if_icmp .gt 43, 3) := by decide +kernel
theorem dX7_rebuild_83 : decode cX7_rebuild 83 = .ok (.iload 5, 2) := by decide +kernel
theorem dX7_rebuild_85 : decode cX7_rebuild 85 = .ok (.aload_n 0, 1) := by decide +kernel
theorem dX7_rebuild_86 : decode cX7_rebuild 86 = .ok (.getfield 9, 3) := by decide +kernel
theorem dX7_rebuild_89 : decode cX7_rebuild 89 = .ok (.if_icmp .gt 34, 3) := by decide +kernel
theorem dX7_rebuild_92 : decode cX7_rebuild 92 = .ok (.lload_n 3, 1) := by decide +kernel
theorem dX7_rebuild_93 : decode cX7_rebuild 93 = .ok (.aload_n 0, 1) := by decide +kernel
theorem dX7_rebuild_94 : decode cX7_rebuild 94 = .ok (.getfield 15, 3) := by decide +kernel
theorem dX7_rebuild_97 : decode cX7_rebuild 97 = .ok (.aload_n 0, 1) := by decide +kernel
theorem dX7_rebuild_98 : decode cX7_rebuild 98 = .ok (.getfield 9, 3) := by decide +kernel
theorem dX7_rebuild_101 : decode cX7_rebuild 101 = .ok (.iload 5, 2) := by decide +kernel
theorem dX7_rebuild_103 : decode cX7_rebuild 103 = .ok (.isub, 1) := by decide +kernel
theorem dX7_rebuild_104 : decode cX7_rebuild 104 = .ok (.laload, 1) := by decide +kernel
theorem dX7_rebuild_105 : decode cX7_rebuild 105 = .ok (.aload_n 0, 1) := by decide +kernel
theorem dX7_rebuild_106 : decode cX7_rebuild 106 = .ok (.getfield 22, 3) := by decide +kernel
theorem dX7_rebuild_109 : decode cX7_rebuild 109 = .ok (.iload_n 2, 1) := by decide +kernel
theorem dX7_rebuild_110 : decode cX7_rebuild 110 = .ok (.iload 5, 2) := by decide +kernel
theorem dX7_rebuild_112 : decode cX7_rebuild 112 = .ok (.isub, 1) := by decide +kernel
theorem dX7_rebuild_113 : decode cX7_rebuild 113 = .ok (.laload, 1) := by decide +kernel
theorem dX7_rebuild_114 : decode cX7_rebuild 114 = .ok (.lmul, 1) := by decide +kernel
theorem dX7_rebuild_115 : decode cX7_rebuild 115 = .ok (.lsub, 1) := by decide +kernel
theorem dX7_rebuild_116 : decode cX7_rebuild 116 = .ok (.lstore_n 3, 1) := by decide +kernel
theorem dX7_rebuild_117 : decode cX7_rebuild 117 = .ok (.iinc 5 1, 3) := by decide +kernel
theorem dX7_rebuild_120 : decode cX7_rebuild 120 = .ok (.goto (-43), 3) := by decide +kernel
theorem dX7_rebuild_123 : decode cX7_rebuild 123 = .ok (.aload_n 0, 1) := by decide +kernel
theorem dX7_rebuild_124 : decode cX7_rebuild 124 = .ok (.getfield 22, 3) := by decide +kernel
theorem dX7_rebuild_127 : decode cX7_rebuild 127 = .ok (.iload_n 2, 1) := by decide +kernel
theorem dX7_rebuild_128 : decode cX7_rebuild 128 = .ok (.lload_n 3, 1) := by decide +kernel
theorem dX7_rebuild_129 : decode cX7_rebuild 129 = .ok (.lastore, 1) := by decide +kernel
theorem dX7_rebuild_130 : decode cX7_rebuild 130 = .ok (.iinc 2 1, 3) := by decide +kernel
theorem dX7_rebuild_133 : decode cX7_rebuild 133 = .ok (.goto (-91), 3) := by decide +kernel
theorem dX7_rebuild_136 : decode cX7_rebuild 136 = .ok (.return_, 1) := by decide +kernel
theorem dX7_multiplyOut_0 : decode cX7_multiplyOut 0 = .ok (.aload_n 2, 1) := by decide +kernel
theorem dX7_multiplyOut_1 : decode cX7_multiplyOut 1 = .ok (.iconst 0, 1) := by decide +kernel
theorem dX7_multiplyOut_2 : decode cX7_multiplyOut 2 = .ok (.lconst 1, 1) := by decide +kernel
theorem dX7_multiplyOut_3 : decode cX7_multiplyOut 3 = .ok (.lastore, 1) := by decide +kernel
theorem dX7_multiplyOut_4 : decode cX7_multiplyOut 4 = .ok (.iconst 0, 1) := by decide +kernel
theorem dX7_multiplyOut_5 : decode cX7_multiplyOut 5 = .ok (.istore_n 3, 1) := by decide +kernel
theorem dX7_multiplyOut_6 : decode cX7_multiplyOut 6 = .ok (.iload_n 3, 1) := by decide +kernel
theorem dX7_multiplyOut_7 : decode cX7_multiplyOut 7 = .ok (.iload_n 1, 1) := by decide +kernel
theorem dX7_multiplyOut_8 : decode cX7_multiplyOut 8 = .ok (.if_icmp .ge 63, 3) := by decide +kernel
theorem dX7_multiplyOut_11 : decode cX7_multiplyOut 11 = .ok (.aload_n 2, 1) := by decide +kernel
theorem dX7_multiplyOut_12 : decode cX7_multiplyOut 12 = .ok (.iload_n 3, 1) := by decide +kernel
theorem dX7_multiplyOut_13 : decode cX7_multiplyOut 13 = .ok (.iconst 1, 1) := by decide +kernel
theorem dX7_multiplyOut_14 : decode cX7_multiplyOut 14 = .ok (.iadd, 1) := by decide +kernel
theorem dX7_multiplyOut_15 : decode cX7_multiplyOut 15 = .ok (.lconst 0, 1) := by decide +kernel
theorem dX7_multiplyOut_16 : decode cX7_multiplyOut 16 = .ok (.lastore, 1) := by decide +kernel
theorem dX7_multiplyOut_17 : decode cX7_multiplyOut 17 = .ok (.iload_n 3, 1) := by decide +kernel
theorem dX7_multiplyOut_18 : decode cX7_multiplyOut 18 = .ok (.iconst 1, 1) := by decide +kernel
theorem dX7_multiplyOut_19 : decode cX7_multiplyOut 19 = .ok (.iadd, 1) := by decide +kernel
theorem dX7_multiplyOut_20 : decode cX7_multiplyOut 20 = .ok (.istore 4, 2) := by decide +kernel
theorem dX7_multiplyOut_22 : decode cX7_multiplyOut 22 = .ok (.iload 4, 2) := by decide +kernel
theorem dX7_multiplyOut_24 : decode cX7_multiplyOut 24 = .ok (.ifCond .le 29, 3) := by decide +kernel
theorem dX7_multiplyOut_27 : decode cX7_multiplyOut 27 = .ok (.aload_n 2, 1) := by decide +kernel
theorem dX7_multiplyOut_28 : decode cX7_multiplyOut 28 = .ok (.iload 4, 2) := by decide +kernel
theorem dX7_multiplyOut_30 : decode cX7_multiplyOut 30 = .ok (.aload_n 2, 1) := by decide +kernel
theorem dX7_multiplyOut_31 : decode cX7_multiplyOut 31 = .ok (.iload 4, 2) := by decide +kernel
theorem dX7_multiplyOut_33 : decode cX7_multiplyOut 33 = .ok (.iconst 1, 1) := by decide +kernel
theorem dX7_multiplyOut_34 : decode cX7_multiplyOut 34 = .ok (.isub, 1) := by decide +kernel
theorem dX7_multiplyOut_35 : decode cX7_multiplyOut 35 = .ok (.laload, 1) := by decide +kernel
theorem dX7_multiplyOut_36 : decode cX7_multiplyOut 36 = .ok (.aload_n 0, 1) := by decide +kernel
theorem dX7_multiplyOut_37 : decode cX7_multiplyOut 37 = .ok (.iload_n 3, 1) := by decide +kernel
theorem dX7_multiplyOut_38 : decode cX7_multiplyOut 38 = .ok (.iaload, 1) := by decide +kernel
theorem dX7_multiplyOut_39 : decode cX7_multiplyOut 39 = .ok (.i2l, 1) := by decide +kernel
theorem dX7_multiplyOut_40 : decode cX7_multiplyOut 40 = .ok (.aload_n 2, 1) := by decide +kernel
theorem dX7_multiplyOut_41 : decode cX7_multiplyOut 41 = .ok (.iload 4, 2) := by decide +kernel
theorem dX7_multiplyOut_43 : decode cX7_multiplyOut 43 = .ok (.laload, 1) := by decide +kernel
theorem dX7_multiplyOut_44 : decode cX7_multiplyOut 44 = .ok (.lmul, 1) := by decide +kernel
theorem dX7_multiplyOut_45 : decode cX7_multiplyOut 45 = .ok (.lsub, 1) := by decide +kernel
theorem dX7_multiplyOut_46 : decode cX7_multiplyOut 46 = .ok (.lastore, 1) := by decide +kernel
theorem dX7_multiplyOut_47 : decode cX7_multiplyOut 47 = .ok (.iinc 4 (-1), 3) := by decide +kernel
theorem dX7_multiplyOut_50 : decode cX7_multiplyOut 50 = .ok (.goto (-28), 3) := by decide +kernel
theorem dX7_multiplyOut_53 : decode cX7_multiplyOut 53 = .ok (.aload_n 2, 1) := by decide +kernel
theorem dX7_multiplyOut_54 : decode cX7_multiplyOut 54 = .ok (.iconst 0, 1) := by decide +kernel
theorem dX7_multiplyOut_55 : decode cX7_multiplyOut 55 = .ok (.aload_n 0, 1) := by decide +kernel
theorem dX7_multiplyOut_56 : decode cX7_multiplyOut 56 = .ok (.iload_n 3, 1) := by decide +kernel
theorem dX7_multiplyOut_57 : decode cX7_multiplyOut 57 = .ok (.iaload, 1) := by decide +kernel
theorem dX7_multiplyOut_58 : decode cX7_multiplyOut 58 = .ok (.ineg, 1) := by decide +kernel
theorem dX7_multiplyOut_59 : decode cX7_multiplyOut 59 = .ok (.i2l, 1) := by decide +kernel
theorem dX7_multiplyOut_60 : decode cX7_multiplyOut 60 = .ok (.aload_n 2, 1) := by decide +kernel
theorem dX7_multiplyOut_61 : decode cX7_multiplyOut 61 = .ok (.iconst 0, 1) := by decide +kernel
theorem dX7_multiplyOut_62 : decode cX7_multiplyOut 62 = .ok (.laload, 1) := by decide +kernel
theorem dX7_multiplyOut_63 : decode cX7_multiplyOut 63 = .ok (.lmul, 1) := by decide +kernel
theorem dX7_multiplyOut_64 : decode cX7_multiplyOut 64 = .ok (.lastore, 1) := by decide +kernel
theorem dX7_multiplyOut_65 : decode cX7_multiplyOut 65 = .ok (.iinc 3 1, 3) := by decide +kernel
theorem dX7_multiplyOut_68 : decode cX7_multiplyOut 68 = .ok (.goto (-62), 3) := by decide +kernel
theorem dX7_multiplyOut_71 : decode cX7_multiplyOut 71 = .ok (.return_, 1) := by decide +kernel
theorem dX7_momentTable_0 : decode cX7_momentTable 0 = .ok (.aload_n 0, 1) := by decide +kernel
theorem dX7_momentTable_1 : decode cX7_momentTable 1 = .ok (.getfield 22, 3) := by decide +kernel
theorem dX7_momentTable_4 : decode cX7_momentTable 4 = .ok (.iload_n 1, 1) := by decide +kernel
theorem dX7_momentTable_5 : decode cX7_momentTable 5 = .ok (.iload_n 2, 1) := by decide +kernel
theorem dX7_momentTable_6 : decode cX7_momentTable 6 = .ok (.iconst 0, 1) := by decide +kernel
theorem dX7_momentTable_7 : decode cX7_momentTable 7 = .ok (.iconst 0, 1) := by decide +kernel
theorem dX7_momentTable_8 : decode cX7_momentTable 8 = .ok (.invokestatic 39, 3) := by decide +kernel
theorem dX7_momentTable_11 : decode cX7_momentTable 11 = .ok (.lreturn, 1) := by decide +kernel
theorem dX7_minor_0 : decode cX7_minor 0 = .ok (.iload_n 3, 1) := by decide +kernel
theorem dX7_minor_1 : decode cX7_minor 1 = .ok (.iload_n 1, 1) := by decide +kernel
theorem dX7_minor_2 : decode cX7_minor 2 = .ok (.if_icmp .lt 5, 3) := by decide +kernel
theorem dX7_minor_5 : decode cX7_minor 5 = .ok (.lconst 1, 1) := by decide +kernel
theorem dX7_minor_6 : decode cX7_minor 6 = .ok (.lreturn, 1) := by decide +kernel
theorem dX7_minor_7 : decode cX7_minor 7 = .ok (.lconst 0, 1) := by decide +kernel
theorem dX7_minor_8 : decode cX7_minor 8 = .ok (.lstore 5, 2) := by decide +kernel
theorem dX7_minor_10 : decode cX7_minor 10 = .ok (.iconst 1, 1) := by decide +kernel
theorem dX7_minor_11 : decode cX7_minor 11 = .ok (.istore 7, 2) := by decide +kernel
theorem dX7_minor_13 : decode cX7_minor 13 = .ok (.iconst 0, 1) := by decide +kernel
theorem dX7_minor_14 : decode cX7_minor 14 = .ok (.istore 8, 2) := by decide +kernel
theorem dX7_minor_16 : decode cX7_minor 16 = .ok (.iload 8, 2) := by decide +kernel
theorem dX7_minor_18 : decode cX7_minor 18 = .ok (.iload_n 1, 1) := by decide +kernel
theorem dX7_minor_19 : decode cX7_minor 19 = .ok (.if_icmp .ge 71, 3) := by decide +kernel
theorem dX7_minor_22 : decode cX7_minor 22 = .ok (.iconst 1, 1) := by decide +kernel
theorem dX7_minor_23 : decode cX7_minor 23 = .ok (.iload 8, 2) := by decide +kernel
theorem dX7_minor_25 : decode cX7_minor 25 = .ok (.ishl, 1) := by decide +kernel
theorem dX7_minor_26 : decode cX7_minor 26 = .ok (.istore 9, 2) := by decide +kernel
theorem dX7_minor_28 : decode cX7_minor 28 = .ok (.iload 4, 2) := by decide +kernel
theorem dX7_minor_30 : decode cX7_minor 30 = .ok (.iload 9, 2) := by decide +kernel
theorem dX7_minor_32 : decode cX7_minor 32 = .ok (.iand, 1) := by decide +kernel
theorem dX7_minor_33 : decode cX7_minor 33 = .ok (.ifCond .ne 51, 3) := by decide +kernel
theorem dX7_minor_36 : decode cX7_minor 36 = .ok (.iload_n 3, 1) := by decide +kernel
theorem dX7_minor_37 : decode cX7_minor 37 = .ok (.iload 8, 2) := by decide +kernel
theorem dX7_minor_39 : decode cX7_minor 39 = .ok (.iadd, 1) := by decide +kernel
theorem dX7_minor_40 : decode cX7_minor 40 = .ok (.iload_n 2, 1) := by decide +kernel
theorem dX7_minor_41 : decode cX7_minor 41 = .ok (.iadd, 1) := by decide +kernel
theorem dX7_minor_42 : decode cX7_minor 42 = .ok (.aload_n 0, 1) := by decide +kernel
theorem dX7_minor_43 : decode cX7_minor 43 = .ok (.arraylength, 1) := by decide +kernel
theorem dX7_minor_44 : decode cX7_minor 44 = .ok (.if_icmp .ge 40, 3) := by decide +kernel
theorem dX7_minor_47 : decode cX7_minor 47 = .ok (.lload 5, 2) := by decide +kernel
theorem dX7_minor_49 : decode cX7_minor 49 = .ok (.iload 7, 2) := by decide +kernel
theorem dX7_minor_51 : decode cX7_minor 51 = .ok (.i2l, 1) := by decide +kernel
theorem dX7_minor_52 : decode cX7_minor 52 = .ok (.aload_n 0, 1) := by decide +kernel
theorem dX7_minor_53 : decode cX7_minor 53 = .ok (.iload_n 3, 1) := by decide +kernel
theorem dX7_minor_54 : decode cX7_minor 54 = .ok (.iload 8, 2) := by decide +kernel
theorem dX7_minor_56 : decode cX7_minor 56 = .ok (.iadd, 1) := by decide +kernel
theorem dX7_minor_57 : decode cX7_minor 57 = .ok (.iload_n 2, 1) := by decide +kernel
theorem dX7_minor_58 : decode cX7_minor 58 = .ok (.iadd, 1) := by decide +kernel
theorem dX7_minor_59 : decode cX7_minor 59 = .ok (.laload, 1) := by decide +kernel
theorem dX7_minor_60 : decode cX7_minor 60 = .ok (.lmul, 1) := by decide +kernel
theorem dX7_minor_61 : decode cX7_minor 61 = .ok (.aload_n 0, 1) := by decide +kernel
theorem dX7_minor_62 : decode cX7_minor 62 = .ok (.iload_n 1, 1) := by decide +kernel
theorem dX7_minor_63 : decode cX7_minor 63 = .ok (.iload_n 2, 1) := by decide +kernel
theorem dX7_minor_64 : decode cX7_minor 64 = .ok (.iload_n 3, 1) := by decide +kernel
theorem dX7_minor_65 : decode cX7_minor 65 = .ok (.iconst 1, 1) := by decide +kernel
theorem dX7_minor_66 : decode cX7_minor 66 = .ok (.iadd, 1) := by decide +kernel
theorem dX7_minor_67 : decode cX7_minor 67 = .ok (.iload 4, 2) := by decide +kernel
theorem dX7_minor_69 : decode cX7_minor 69 = .ok (.iload 9, 2) := by decide +kernel
theorem dX7_minor_71 : decode cX7_minor 71 = .ok (.ior, 1) := by decide +kernel
theorem dX7_minor_72 : decode cX7_minor 72 = .ok (.invokestatic 39, 3) := by decide +kernel
theorem dX7_minor_75 : decode cX7_minor 75 = .ok (.lmul, 1) := by decide +kernel
theorem dX7_minor_76 : decode cX7_minor 76 = .ok (.ladd, 1) := by decide +kernel
theorem dX7_minor_77 : decode cX7_minor 77 = .ok (.lstore 5, 2) := by decide +kernel
theorem dX7_minor_79 : decode cX7_minor 79 = .ok (.iload 7, 2) := by decide +kernel
theorem dX7_minor_81 : decode cX7_minor 81 = .ok (.ineg, 1) := by decide +kernel
theorem dX7_minor_82 : decode cX7_minor 82 = .ok (.istore 7, 2) := by decide +kernel
theorem dX7_minor_84 : decode cX7_minor 84 = .ok (.iinc 8 1, 3) := by decide +kernel
theorem dX7_minor_87 : decode cX7_minor 87 = .ok (.goto (-71), 3) := by decide +kernel
theorem dX7_minor_90 : decode cX7_minor 90 = .ok (.lload 5, 2) := by decide +kernel
theorem dX7_minor_92 : decode cX7_minor 92 = .ok (.lreturn, 1) := by decide +kernel
theorem dX8_init_0 : decode cX8_init 0 = .ok (.aload_n 0, 1) := by decide +kernel
theorem dX8_init_1 : decode cX8_init 1 = .ok (.invokespecial 3, 3) := by decide +kernel
theorem dX8_init_4 : decode cX8_init 4 = .ok (.aload_n 0, 1) := by decide +kernel
theorem dX8_init_5 : decode cX8_init 5 = .ok (.iconst 0, 1) := by decide +kernel
theorem dX8_init_6 : decode cX8_init 6 = .ok (.putfield 9, 3) := by decide +kernel
theorem dX8_init_9 : decode cX8_init 9 = .ok (.aload_n 0, 1) := by decide +kernel
theorem dX8_init_10 : decode cX8_init 10 = .ok (.iconst 4, 1) := by decide +kernel
theorem dX8_init_11 : decode cX8_init 11 = .ok (.invokestatic 15, 3) := by decide +kernel
theorem dX8_init_14 : decode cX8_init 14 = .ok (.putfield 21, 3) := by decide +kernel
theorem dX8_init_17 : decode cX8_init 17 = .ok (.aload_n 0, 1) := by decide +kernel
theorem dX8_init_18 : decode cX8_init 18 = .ok (.iconst 3, 1) := by decide +kernel
theorem dX8_init_19 : decode cX8_init 19 = .ok (.invokestatic 15, 3) := by decide +kernel
theorem dX8_init_22 : decode cX8_init 22 = .ok (.putfield 25, 3) := by decide +kernel
theorem dX8_init_25 : decode cX8_init 25 = .ok (.aload_n 0, 1) := by decide +kernel
theorem dX8_init_26 : decode cX8_init 26 = .ok (.iconst 3, 1) := by decide +kernel
theorem dX8_init_27 : decode cX8_init 27 = .ok (.invokestatic 15, 3) := by decide +kernel
theorem dX8_init_30 : decode cX8_init 30 = .ok (.putfield 28, 3) := by decide +kernel
theorem dX8_init_33 : decode cX8_init 33 = .ok (.aload_n 0, 1) := by decide +kernel
theorem dX8_init_34 : decode cX8_init 34 = .ok (.iconst 3, 1) := by decide +kernel
theorem dX8_init_35 : decode cX8_init 35 = .ok (.invokestatic 15, 3) := by decide +kernel
theorem dX8_init_38 : decode cX8_init 38 = .ok (.putfield 31, 3) := by decide +kernel
theorem dX8_init_41 : decode cX8_init 41 = .ok (.aload_n 0, 1) := by decide +kernel
theorem dX8_init_42 : decode cX8_init 42 = .ok (.iconst 5, 1) := by decide +kernel
theorem dX8_init_43 : decode cX8_init 43 = .ok (.invokestatic 15, 3) := by decide +kernel
theorem dX8_init_46 : decode cX8_init 46 = .ok (.putfield 34, 3) := by decide +kernel
theorem dX8_init_49 : decode cX8_init 49 = .ok (.aload_n 0, 1) := by decide +kernel
theorem dX8_init_50 : decode cX8_init 50 = .ok (.iconst 5, 1) := by decide +kernel
theorem dX8_init_51 : decode cX8_init 51 = .ok (.invokestatic 15, 3) := by decide +kernel
theorem dX8_init_54 : decode cX8_init 54 = .ok (.putfield 37, 3) := by decide +kernel
theorem dX8_init_57 : decode cX8_init 57 = .ok (.aload_n 0, 1) := by decide +kernel
theorem dX8_init_58 : decode cX8_init 58 = .ok (.iconst 5, 1) := by decide +kernel
theorem dX8_init_59 : decode cX8_init 59 = .ok (.invokestatic 15, 3) := by decide +kernel
theorem dX8_init_62 : decode cX8_init 62 = .ok (.putfield 40, 3) := by decide +kernel
theorem dX8_init_65 : decode cX8_init 65 = .ok (.aload_n 0, 1) := by decide +kernel
theorem dX8_init_66 : decode cX8_init 66 = .ok (.new 16, 3) := by decide +kernel
theorem dX8_init_69 : decode cX8_init 69 = .ok (.dup, 1) := by decide +kernel
theorem dX8_init_70 : decode cX8_init 70 = .ok (.invokespecial 43, 3) := by decide +kernel
theorem dX8_init_73 : decode cX8_init 73 = .ok (.putfield 44, 3) := by decide +kernel
theorem dX8_init_76 : decode cX8_init 76 = .ok (.aload_n 0, 1) := by decide +kernel
theorem dX8_init_77 : decode cX8_init 77 = .ok (.new 16, 3) := by decide +kernel
theorem dX8_init_80 : decode cX8_init 80 = .ok (.dup, 1) := by decide +kernel
theorem dX8_init_81 : decode cX8_init 81 = .ok (.invokespecial 43, 3) := by decide +kernel
theorem dX8_init_84 : decode cX8_init 84 = .ok (.putfield 48, 3) := by decide +kernel
theorem dX8_init_87 : decode cX8_init 87 = .ok (.aload_n 0, 1) := by decide +kernel
theorem dX8_init_88 : decode cX8_init 88 = .ok (.new 16, 3) := by decide +kernel
theorem dX8_init_91 : decode cX8_init 91 = .ok (.dup, 1) := by decide +kernel
theorem dX8_init_92 : decode cX8_init 92 = .ok (.invokespecial 43, 3) := by decide +kernel
theorem dX8_init_95 : decode cX8_init 95 = .ok (.putfield 51, 3) := by decide +kernel
theorem dX8_init_98 : decode cX8_init 98 = .ok (.aload_n 0, 1) := by decide +kernel
theorem dX8_init_99 : decode cX8_init 99 = .ok (.new 16, 3) := by decide +kernel
theorem dX8_init_102 : decode cX8_init 102 = .ok (.dup, 1) := by decide +kernel
theorem dX8_init_103 : decode cX8_init 103 = .ok (.invokespecial 43, 3) := by decide +kernel
theorem dX8_init_106 : decode cX8_init 106 = .ok (.putfield 54, 3) := by decide +kernel
theorem dX8_init_109 : decode cX8_init 109 = .ok (.aload_n 0, 1) := by decide +kernel
theorem dX8_init_110 : decode cX8_init 110 = .ok (.new 16, 3) := by decide +kernel
theorem dX8_init_113 : decode cX8_init 113 = .ok (.dup, 1) := by decide +kernel
theorem dX8_init_114 : decode cX8_init 114 = .ok (.invokespecial 43, 3) := by decide +kernel
theorem dX8_init_117 : decode cX8_init 117 = .ok (.putfield 57, 3) := by decide +kernel
theorem dX8_init_120 : decode cX8_init 120 = .ok (.aload_n 0, 1) := by decide +kernel
theorem dX8_init_121 : decode cX8_init 121 = .ok (.aload_n 1, 1) := by decide +kernel
theorem dX8_init_122 : decode cX8_init 122 = .ok (.putfield 60, 3) := by decide +kernel
theorem dX8_init_125 : decode cX8_init 125 = .ok (.return_, 1) := by decide +kernel
theorem dX8_rebuild_0 : decode cX8_rebuild 0 = .ok (.aload_n 0, 1) := by decide +kernel
theorem dX8_rebuild_1 : decode cX8_rebuild 1 = .ok (.getfield 60, 3) := by decide +kernel
theorem dX8_rebuild_4 : decode cX8_rebuild 4 = .ok (.aload_n 1, 1) := by decide +kernel
theorem dX8_rebuild_5 : decode cX8_rebuild 5 = .ok (.invokevirtual 64, 3) := by decide +kernel
theorem dX8_rebuild_8 : decode cX8_rebuild 8 = .ok (.aload_n 0, 1) := by decide +kernel
theorem dX8_rebuild_9 : decode cX8_rebuild 9 = .ok (.aload_n 0, 1) := by decide +kernel
theorem dX8_rebuild_10 : decode cX8_rebuild 10 = .ok (.getfield 60, 3) := by decide +kernel
theorem dX8_rebuild_13 : decode cX8_rebuild 13 = .ok (.getfield 70, 3) := by decide +kernel
theorem dX8_rebuild_16 : decode cX8_rebuild 16 = .ok (.putfield 9, 3) := by decide +kernel
theorem dX8_rebuild_19 : decode cX8_rebuild 19 = .ok (.aload_n 0, 1) := by decide +kernel
theorem dX8_rebuild_20 : decode cX8_rebuild 20 = .ok (.getfield 34, 3) := by decide +kernel
theorem dX8_rebuild_23 : decode cX8_rebuild 23 = .ok (.astore_n 2, 1) := by decide +kernel
theorem dX8_rebuild_24 : decode cX8_rebuild 24 = .ok (.aload_n 0, 1) := by decide +kernel
theorem dX8_rebuild_25 : decode cX8_rebuild 25 = .ok (.getfield 37, 3) := by decide +kernel
theorem dX8_rebuild_28 : decode cX8_rebuild 28 = .ok (.astore_n 3, 1) := by decide +kernel
theorem dX8_rebuild_29 : decode cX8_rebuild 29 = .ok (.aload_n 0, 1) := by decide +kernel
theorem dX8_rebuild_30 : decode cX8_rebuild 30 = .ok (.getfield 40, 3) := by decide +kernel
theorem dX8_rebuild_33 : decode cX8_rebuild 33 = .ok (.astore 4, 2) := by decide +kernel
theorem dX8_rebuild_35 : decode cX8_rebuild 35 = .ok (.aload_n 2, 1) := by decide +kernel
theorem dX8_rebuild_36 : decode cX8_rebuild 36 = .ok (.aload_n 0, 1) := by decide +kernel
theorem dX8_rebuild_37 : decode cX8_rebuild 37 = .ok (.getfield 60, 3) := by decide +kernel
theorem dX8_rebuild_40 : decode cX8_rebuild 40 = .ok (.getfield 73, 3) := by decide +kernel
theorem dX8_rebuild_43 : decode cX8_rebuild 43 = .ok (.aload_n 0, 1) := by decide +kernel
theorem dX8_rebuild_44 : decode cX8_rebuild 44 = .ok (.getfield 9, 3) := by decide +kernel
theorem dX8_rebuild_47 : decode cX8_rebuild 47 = .ok (.iconst 1, 1) := by decide +kernel
theorem dX8_rebuild_48 : decode cX8_rebuild 48 = .ok (.iadd, 1) := by decide +kernel
theorem dX8_rebuild_49 : decode cX8_rebuild 49 = .ok (.invokestatic 77, 3) := by decide +kernel
theorem dX8_rebuild_52 : decode cX8_rebuild 52 = .ok (.aload_n 3, 1) := by decide +kernel
theorem dX8_rebuild_53 : decode cX8_rebuild 53 = .ok (.aload_n 0, 1) := by decide +kernel
theorem dX8_rebuild_54 : decode cX8_rebuild 54 = .ok (.getfield 60, 3) := by decide +kernel
theorem dX8_rebuild_57 : decode cX8_rebuild 57 = .ok (.getfield 81, 3) := by decide +kernel
theorem dX8_rebuild_60 : decode cX8_rebuild 60 = .ok (.aload_n 0, 1) := by decide +kernel
theorem dX8_rebuild_61 : decode cX8_rebuild 61 = .ok (.getfield 9, 3) := by decide +kernel
theorem dX8_rebuild_64 : decode cX8_rebuild 64 = .ok (.invokestatic 77, 3) := by decide +kernel
theorem dX8_rebuild_67 : decode cX8_rebuild 67 = .ok (.iconst 0, 1) := by decide +kernel
theorem dX8_rebuild_68 : decode cX8_rebuild 68 = .ok (.istore 5, 2) := by decide +kernel
theorem dX8_rebuild_70 : decode cX8_rebuild 70 = .ok (.iload 5, 2) := by decide +kernel
theorem dX8_rebuild_72 : decode cX8_rebuild 72 = .ok (.aload_n 0, 1) := by decide +kernel
theorem dX8_rebuild_73 : decode cX8_rebuild 73 = .ok (.getfield 9, 3) := by decide +kernel
theorem dX8_rebuild_76 : decode cX8_rebuild 76 = .ok (.if_icmp .ge 138, 3) := by decide +kernel
theorem dX8_rebuild_79 : decode cX8_rebuild 79 = .ok (.aload_n 0, 1) := by decide +kernel
theorem dX8_rebuild_80 : decode cX8_rebuild 80 = .ok (.getfield 9, 3) := by decide +kernel
theorem dX8_rebuild_83 : decode cX8_rebuild 83 = .ok (.iload 5, 2) := by decide +kernel
theorem dX8_rebuild_85 : decode cX8_rebuild 85 = .ok (.isub, 1) := by decide +kernel
theorem dX8_rebuild_86 : decode cX8_rebuild 86 = .ok (.istore 6, 2) := by decide +kernel
theorem dX8_rebuild_88 : decode cX8_rebuild 88 = .ok (.aload_n 0, 1) := by decide +kernel
theorem dX8_rebuild_89 : decode cX8_rebuild 89 = .ok (.getfield 21, 3) := by decide +kernel
theorem dX8_rebuild_92 : decode cX8_rebuild 92 = .ok (.iload 5, 2) := by decide +kernel
theorem dX8_rebuild_94 : decode cX8_rebuild 94 = .ok (.aaload, 1) := by decide +kernel
theorem dX8_rebuild_95 : decode cX8_rebuild 95 = .ok (.lconst 0, 1) := by decide +kernel
theorem dX8_rebuild_96 : decode cX8_rebuild 96 = .ok (.lconst 1, 1) := by decide +kernel
theorem dX8_rebuild_97 : decode cX8_rebuild 97 = .ok (.invokevirtual 84, 3) := by decide +kernel
theorem dX8_rebuild_100 : decode cX8_rebuild 100 = .ok (.iload 6, 2) := by decide +kernel
theorem dX8_rebuild_102 : decode cX8_rebuild 102 = .ok (.iconst 1, 1) := by decide +kernel
theorem dX8_rebuild_103 : decode cX8_rebuild 103 = .ok (.if_icmp .le 19, 3) := by decide +kernel
theorem dX8_rebuild_106 : decode cX8_rebuild 106 = .ok (.aload_n 0, 1) := by decide +kernel
theorem dX8_rebuild_107 : decode cX8_rebuild 107 = .ok (.getfield 21, 3) := by decide +kernel
theorem dX8_rebuild_110 : decode cX8_rebuild 110 = .ok (.iload 5, 2) := by decide +kernel
theorem dX8_rebuild_112 : decode cX8_rebuild 112 = .ok (.aaload, 1) := by decide +kernel
theorem dX8_rebuild_113 : decode cX8_rebuild 113 = .ok (.aload_n 3, 1) := by decide +kernel
theorem dX8_rebuild_114 : decode cX8_rebuild 114 = .ok (.iload 6, 2) := by decide +kernel
theorem dX8_rebuild_116 : decode cX8_rebuild 116 = .ok (.iconst 2, 1) := by decide +kernel
theorem dX8_rebuild_117 : decode cX8_rebuild 117 = .ok (.isub, 1) := by decide +kernel
theorem dX8_rebuild_118 : decode cX8_rebuild 118 = .ok (.aaload, 1) := by decide +kernel
theorem dX8_rebuild_119 : decode cX8_rebuild 119 = .ok (.invokevirtual 88, 3) := by decide +kernel
theorem dX8_rebuild_122 : decode cX8_rebuild 122 = .ok (.aload_n 0, 1) := by decide +kernel
theorem dX8_rebuild_123 : decode cX8_rebuild 123 = .ok (.getfield 21, 3) := by decide +kernel
theorem dX8_rebuild_126 : decode cX8_rebuild 126 = .ok (.iload 5, 2) := by decide +kernel
theorem dX8_rebuild_128 : decode cX8_rebuild 128 = .ok (.aaload, 1) := by decide +kernel
theorem dX8_rebuild_129 : decode cX8_rebuild 129 = .ok (.aload_n 2, 1) := by decide +kernel
theorem dX8_rebuild_130 : decode cX8_rebuild 130 = .ok (.iload 6, 2) := by decide +kernel
theorem dX8_rebuild_132 : decode cX8_rebuild 132 = .ok (.iconst 1, 1) := by decide +kernel
theorem dX8_rebuild_133 : decode cX8_rebuild 133 = .ok (.isub, 1) := by decide +kernel
theorem dX8_rebuild_134 : decode cX8_rebuild 134 = .ok (.aaload, 1) := by decide +kernel
theorem dX8_rebuild_135 : decode cX8_rebuild 135 = .ok (.invokevirtual 92, 3) := by decide +kernel
theorem dX8_rebuild_138 : decode cX8_rebuild 138 = .ok (.iload 6, 2) := by decide +kernel
theorem dX8_rebuild_140 : decode cX8_rebuild 140 = .ok (.iconst 1, 1) := by decide +kernel
theorem dX8_rebuild_141 : decode cX8_rebuild 141 = .ok (.if_icmp .le 67, 3) := by decide +kernel
theorem dX8_rebuild_144 : decode cX8_rebuild 144 = .ok (.aload_n 0, 1) := by decide +kernel
theorem dX8_rebuild_145 : decode cX8_rebuild 145 = .ok (.aload_n 2, 1) := by decide +kernel
theorem dX8_rebuild_146 : decode cX8_rebuild 146 = .ok (.aload_n 3, 1) := by decide +kernel
theorem dX8_rebuild_147 : decode cX8_rebuild 147 = .ok (.aload 4, 2) := by decide +kernel
theorem dX8_rebuild_149 : decode cX8_rebuild 149 = .ok (.iload 6, 2) := by decide +kernel
theorem dX8_rebuild_151 : decode cX8_rebuild 151 = .ok (.iconst 1, 1) := by decide +kernel
theorem dX8_rebuild_152 : decode cX8_rebuild 152 = .ok (.isub, 1) := by decide +kernel
theorem dX8_rebuild_153 : decode cX8_rebuild 153 = .ok (.aload_n 0, 1) := by decide +kernel
theorem dX8_rebuild_154 : decode cX8_rebuild 154 = .ok (.getfield 21, 3) := by decide +kernel
theorem dX8_rebuild_157 : decode cX8_rebuild 157 = .ok (.iload 5, 2) := by decide +kernel
theorem dX8_rebuild_159 : decode cX8_rebuild 159 = .ok (.aaload, 1) := by decide +kernel
theorem dX8_rebuild_160 : decode cX8_rebuild 160 = .ok (.invokevirtual 95, 3) := by decide +kernel
theorem dX8_rebuild_163 : decode cX8_rebuild 163 = .ok (.aload_n 0, 1) := by decide +kernel
theorem dX8_rebuild_164 : decode cX8_rebuild 164 = .ok (.getfield 25, 3) := by decide +kernel
theorem dX8_rebuild_167 : decode cX8_rebuild 167 = .ok (.iload 5, 2) := by decide +kernel
theorem dX8_rebuild_169 : decode cX8_rebuild 169 = .ok (.aaload, 1) := by decide +kernel
theorem dX8_rebuild_170 : decode cX8_rebuild 170 = .ok (.aload 4, 2) := by decide +kernel
theorem dX8_rebuild_172 : decode cX8_rebuild 172 = .ok (.iload 6, 2) := by decide +kernel
theorem dX8_rebuild_174 : decode cX8_rebuild 174 = .ok (.iconst 2, 1) := by decide +kernel
theorem dX8_rebuild_175 : decode cX8_rebuild 175 = .ok (.isub, 1) := by decide +kernel
theorem dX8_rebuild_176 : decode cX8_rebuild 176 = .ok (.aaload, 1) := by decide +kernel
theorem dX8_rebuild_177 : decode cX8_rebuild 177 = .ok (.invokevirtual 88, 3) := by decide +kernel
theorem dX8_rebuild_180 : decode cX8_rebuild 180 = .ok (.aload 4, 2) := by decide +kernel
theorem dX8_rebuild_182 : decode cX8_rebuild 182 = .ok (.iload 6, 2) := by decide +kernel
theorem dX8_rebuild_184 : decode cX8_rebuild 184 = .ok (.iconst 1, 1) := by decide +kernel
theorem dX8_rebuild_185 : decode cX8_rebuild 185 = .ok (.isub, 1) := by decide +kernel
theorem dX8_rebuild_186 : decode cX8_rebuild 186 = .ok (.aload_n 0, 1) := by decide +kernel
theorem dX8_rebuild_187 : decode cX8_rebuild 187 = .ok (.getfield 25, 3) := by decide +kernel
theorem dX8_rebuild_190 : decode cX8_rebuild 190 = .ok (.iload 5, 2) := by decide +kernel
theorem dX8_rebuild_192 : decode cX8_rebuild 192 = .ok (.aaload, 1) := by decide +kernel
theorem dX8_rebuild_193 : decode cX8_rebuild 193 = .ok (.invokestatic 99, 3) := by decide +kernel
theorem dX8_rebuild_196 : decode cX8_rebuild 196 = .ok (.aload_n 2, 1) := by decide +kernel
theorem dX8_rebuild_197 : decode cX8_rebuild 197 = .ok (.astore 7, 2) := by decide +kernel
theorem dX8_rebuild_199 : decode cX8_rebuild 199 = .ok (.aload_n 3, 1) := by decide +kernel
theorem dX8_rebuild_200 : decode cX8_rebuild 200 = .ok (.astore_n 2, 1) := by decide +kernel
theorem dX8_rebuild_201 : decode cX8_rebuild 201 = .ok (.aload 4, 2) := by decide +kernel
theorem dX8_rebuild_203 : decode cX8_rebuild 203 = .ok (.astore_n 3, 1) := by decide +kernel
theorem dX8_rebuild_204 : decode cX8_rebuild 204 = .ok (.aload 7, 2) := by decide +kernel
theorem dX8_rebuild_206 : decode cX8_rebuild 206 = .ok (.astore 4, 2) := by decide +kernel
theorem dX8_rebuild_208 : decode cX8_rebuild 208 = .ok (.iinc 5 1, 3) := by decide +kernel
theorem dX8_rebuild_211 : decode cX8_rebuild 211 = .ok (.goto (-141), 3) := by decide +kernel
theorem dX8_rebuild_214 : decode cX8_rebuild 214 = .ok (.return_, 1) := by decide +kernel
theorem dX8_setWhole_0 : decode cX8_setWhole 0 = .ok (.iconst 0, 1) := by decide +kernel
theorem dX8_setWhole_1 : decode cX8_setWhole 1 = .ok (.istore_n 3, 1) := by decide +kernel
theorem dX8_setWhole_2 : decode cX8_setWhole 2 = .ok (.iload_n 3, 1) := by decide +kernel
theorem dX8_setWhole_3 : decode cX8_setWhole 3 = .ok (.iload_n 2, 1) := by decide +kernel
theorem dX8_setWhole_4 : decode cX8_setWhole 4 = .ok (.if_icmp .ge 31, 3) := by decide +kernel
theorem dX8_setWhole_7 : decode cX8_setWhole 7 = .ok (.iload_n 3, 1) := by decide +kernel
theorem dX8_setWhole_8 : decode cX8_setWhole 8 = .ok (.aload_n 0, 1) := by decide +kernel
theorem dX8_setWhole_9 : decode cX8_setWhole 9 = .ok (.arraylength, 1) := by decide +kernel
theorem dX8_setWhole_10 : decode cX8_setWhole 10 = .ok (.if_icmp .ge 25, 3) := by decide +kernel
theorem dX8_setWhole_13 : decode cX8_setWhole 13 = .ok (.iload_n 3, 1) := by decide +kernel
theorem dX8_setWhole_14 : decode cX8_setWhole 14 = .ok (.aload_n 1, 1) := by decide +kernel
theorem dX8_setWhole_15 : decode cX8_setWhole 15 = .ok (.arraylength, 1) := by decide +kernel
theorem dX8_setWhole_16 : decode cX8_setWhole 16 = .ok (.if_icmp .ge 19, 3) := by decide +kernel
theorem dX8_setWhole_19 : decode cX8_setWhole 19 = .ok (.aload_n 0, 1) := by decide +kernel
theorem dX8_setWhole_20 : decode cX8_setWhole 20 = .ok (.iload_n 3, 1) := by decide +kernel
theorem dX8_setWhole_21 : decode cX8_setWhole 21 = .ok (.aaload, 1) := by decide +kernel
theorem dX8_setWhole_22 : decode cX8_setWhole 22 = .ok (.aload_n 1, 1) := by decide +kernel
theorem dX8_setWhole_23 : decode cX8_setWhole 23 = .ok (.iload_n 3, 1) := by decide +kernel
theorem dX8_setWhole_24 : decode cX8_setWhole 24 = .ok (.laload, 1) := by decide +kernel
theorem dX8_setWhole_25 : decode cX8_setWhole 25 = .ok (.lconst 1, 1) := by decide +kernel
theorem dX8_setWhole_26 : decode cX8_setWhole 26 = .ok (.invokevirtual 84, 3) := by decide +kernel
theorem dX8_setWhole_29 : decode cX8_setWhole 29 = .ok (.iinc 3 1, 3) := by decide +kernel
theorem dX8_setWhole_32 : decode cX8_setWhole 32 = .ok (.goto (-30), 3) := by decide +kernel
theorem dX8_setWhole_35 : decode cX8_setWhole 35 = .ok (.return_, 1) := by decide +kernel
theorem dX8_leaveRest_0 : decode cX8_leaveRest 0 = .ok (.iconst 0, 1) := by decide +kernel
theorem dX8_leaveRest_1 : decode cX8_leaveRest 1 = .ok (.istore 6, 2) := by decide +kernel
theorem dX8_leaveRest_3 : decode cX8_leaveRest 3 = .ok (.iload 6, 2) := by decide +kernel
theorem dX8_leaveRest_5 : decode cX8_leaveRest 5 = .ok (.iload 4, 2) := by decide +kernel
theorem dX8_leaveRest_7 : decode cX8_leaveRest 7 = .ok (.if_icmp .ge 78, 3) := by decide +kernel
theorem dX8_leaveRest_10 : decode cX8_leaveRest 10 = .ok (.aload_n 3, 1) := by decide +kernel
theorem dX8_leaveRest_11 : decode cX8_leaveRest 11 = .ok (.iload 6, 2) := by decide +kernel
theorem dX8_leaveRest_13 : decode cX8_leaveRest 13 = .ok (.aaload, 1) := by decide +kernel
theorem dX8_leaveRest_14 : decode cX8_leaveRest 14 = .ok (.lconst 0, 1) := by decide +kernel
theorem dX8_leaveRest_15 : decode cX8_leaveRest 15 = .ok (.lconst 1, 1) := by decide +kernel
theorem dX8_leaveRest_16 : decode cX8_leaveRest 16 = .ok (.invokevirtual 84, 3) := by decide +kernel
theorem dX8_leaveRest_19 : decode cX8_leaveRest 19 = .ok (.iload 6, 2) := by decide +kernel
theorem dX8_leaveRest_21 : decode cX8_leaveRest 21 = .ok (.ifCond .le 16, 3) := by decide +kernel
theorem dX8_leaveRest_24 : decode cX8_leaveRest 24 = .ok (.aload_n 3, 1) := by decide +kernel
theorem dX8_leaveRest_25 : decode cX8_leaveRest 25 = .ok (.iload 6, 2) := by decide +kernel
theorem dX8_leaveRest_27 : decode cX8_leaveRest 27 = .ok (.aaload, 1) := by decide +kernel
theorem dX8_leaveRest_28 : decode cX8_leaveRest 28 = .ok (.aload_n 2, 1) := by decide +kernel
theorem dX8_leaveRest_29 : decode cX8_leaveRest 29 = .ok (.iload 6, 2) := by decide +kernel
theorem dX8_leaveRest_31 : decode cX8_leaveRest 31 = .ok (.iconst 1, 1) := by decide +kernel
theorem dX8_leaveRest_32 : decode cX8_leaveRest 32 = .ok (.isub, 1) := by decide +kernel
theorem dX8_leaveRest_33 : decode cX8_leaveRest 33 = .ok (.aaload, 1) := by decide +kernel
theorem dX8_leaveRest_34 : decode cX8_leaveRest 34 = .ok (.invokevirtual 88, 3) := by decide +kernel
theorem dX8_leaveRest_37 : decode cX8_leaveRest 37 = .ok (.aload_n 0, 1) := by decide +kernel
theorem dX8_leaveRest_38 : decode cX8_leaveRest 38 = .ok (.getfield 44, 3) := by decide +kernel
theorem dX8_leaveRest_41 : decode cX8_leaveRest 41 = .ok (.aload 5, 2) := by decide +kernel
theorem dX8_leaveRest_43 : decode cX8_leaveRest 43 = .ok (.invokevirtual 88, 3) := by decide +kernel
theorem dX8_leaveRest_46 : decode cX8_leaveRest 46 = .ok (.aload_n 0, 1) := by decide +kernel
theorem dX8_leaveRest_47 : decode cX8_leaveRest 47 = .ok (.getfield 44, 3) := by decide +kernel
theorem dX8_leaveRest_50 : decode cX8_leaveRest 50 = .ok (.aload_n 2, 1) := by decide +kernel
theorem dX8_leaveRest_51 : decode cX8_leaveRest 51 = .ok (.iload 6, 2) := by decide +kernel
theorem dX8_leaveRest_53 : decode cX8_leaveRest 53 = .ok (.aaload, 1) := by decide +kernel
theorem dX8_leaveRest_54 : decode cX8_leaveRest 54 = .ok (.invokevirtual 103, 3) := by decide +kernel
theorem dX8_leaveRest_57 : decode cX8_leaveRest 57 = .ok (.aload_n 3, 1) := by decide +kernel
theorem dX8_leaveRest_58 : decode cX8_leaveRest 58 = .ok (.iload 6, 2) := by decide +kernel
theorem dX8_leaveRest_60 : decode cX8_leaveRest 60 = .ok (.aaload, 1) := by decide +kernel
theorem dX8_leaveRest_61 : decode cX8_leaveRest 61 = .ok (.aload_n 0, 1) := by decide +kernel
theorem dX8_leaveRest_62 : decode cX8_leaveRest 62 = .ok (.getfield 44, 3) := by decide +kernel
theorem dX8_leaveRest_65 : decode cX8_leaveRest 65 = .ok (.invokevirtual 92, 3) := by decide +kernel
theorem dX8_leaveRest_68 : decode cX8_leaveRest 68 = .ok (.aload_n 3, 1) := by decide +kernel
theorem dX8_leaveRest_69 : decode cX8_leaveRest 69 = .ok (.iload 6, 2) := by decide +kernel
theorem dX8_leaveRest_71 : decode cX8_leaveRest 71 = .ok (.aaload, 1) := by decide +kernel
theorem dX8_leaveRest_72 : decode cX8_leaveRest 72 = .ok (.aload_n 1, 1) := by decide +kernel
theorem dX8_leaveRest_73 : decode cX8_leaveRest 73 = .ok (.iload 6, 2) := by decide +kernel
theorem dX8_leaveRest_75 : decode cX8_leaveRest 75 = .ok (.aaload, 1) := by decide +kernel
theorem dX8_leaveRest_76 : decode cX8_leaveRest 76 = .ok (.invokevirtual 92, 3) := by decide +kernel
theorem dX8_leaveRest_79 : decode cX8_leaveRest 79 = .ok (.iinc 6 1, 3) := by decide +kernel
theorem dX8_leaveRest_82 : decode cX8_leaveRest 82 = .ok (.goto (-79), 3) := by decide +kernel
theorem dX8_leaveRest_85 : decode cX8_leaveRest 85 = .ok (.return_, 1) := by decide +kernel
theorem dX8_divideAll_0 : decode cX8_divideAll 0 = .ok (.iconst 0, 1) := by decide +kernel
theorem dX8_divideAll_1 : decode cX8_divideAll 1 = .ok (.istore_n 3, 1) := by decide +kernel
theorem dX8_divideAll_2 : decode cX8_divideAll 2 = .ok (.iload_n 3, 1) := by decide +kernel
theorem dX8_divideAll_3 : decode cX8_divideAll 3 = .ok (.iload_n 1, 1) := by decide +kernel
theorem dX8_divideAll_4 : decode cX8_divideAll 4 = .ok (.if_icmp .ge 16, 3) := by decide +kernel
theorem dX8_divideAll_7 : decode cX8_divideAll 7 = .ok (.aload_n 0, 1) := by decide +kernel
theorem dX8_divideAll_8 : decode cX8_divideAll 8 = .ok (.iload_n 3, 1) := by decide +kernel
theorem dX8_divideAll_9 : decode cX8_divideAll 9 = .ok (.aaload, 1) := by decide +kernel
theorem dX8_divideAll_10 : decode cX8_divideAll 10 = .ok (.aload_n 2, 1) := by decide +kernel
theorem dX8_divideAll_11 : decode cX8_divideAll 11 = .ok (.invokevirtual 106, 3) := by decide +kernel
theorem dX8_divideAll_14 : decode cX8_divideAll 14 = .ok (.iinc 3 1, 3) := by decide +kernel
theorem dX8_divideAll_17 : decode cX8_divideAll 17 = .ok (.goto (-15), 3) := by decide +kernel
theorem dX8_divideAll_20 : decode cX8_divideAll 20 = .ok (.return_, 1) := by decide +kernel
theorem dX8_orthogonal_0 : decode cX8_orthogonal 0 = .ok (.aload_n 0, 1) := by decide +kernel
theorem dX8_orthogonal_1 : decode cX8_orthogonal 1 = .ok (.getfield 34, 3) := by decide +kernel
theorem dX8_orthogonal_4 : decode cX8_orthogonal 4 = .ok (.astore_n 2, 1) := by decide +kernel
theorem dX8_orthogonal_5 : decode cX8_orthogonal 5 = .ok (.aload_n 0, 1) := by decide +kernel
theorem dX8_orthogonal_6 : decode cX8_orthogonal 6 = .ok (.getfield 37, 3) := by decide +kernel
theorem dX8_orthogonal_9 : decode cX8_orthogonal 9 = .ok (.astore_n 3, 1) := by decide +kernel
theorem dX8_orthogonal_10 : decode cX8_orthogonal 10 = .ok (.aload_n 0, 1) := by decide +kernel
theorem dX8_orthogonal_11 : decode cX8_orthogonal 11 = .ok (.getfield 40, 3) := by decide +kernel
theorem dX8_orthogonal_14 : decode cX8_orthogonal 14 = .ok (.astore 4, 2) := by decide +kernel
theorem dX8_orthogonal_16 : decode cX8_orthogonal 16 = .ok (.iconst 0, 1) := by decide +kernel
theorem dX8_orthogonal_17 : decode cX8_orthogonal 17 = .ok (.istore 5, 2) := by decide +kernel
theorem dX8_orthogonal_19 : decode cX8_orthogonal 19 = .ok (.iload 5, 2) := by decide +kernel
theorem dX8_orthogonal_21 : decode cX8_orthogonal 21 = .ok (.iconst 4, 1) := by decide +kernel
theorem dX8_orthogonal_22 : decode cX8_orthogonal 22 = .ok (.if_icmp .gt 46, 3) := by decide +kernel
theorem dX8_orthogonal_25 : decode cX8_orthogonal 25 = .ok (.aload_n 2, 1) := by decide +kernel
theorem dX8_orthogonal_26 : decode cX8_orthogonal 26 = .ok (.iload 5, 2) := by decide +kernel
theorem dX8_orthogonal_28 : decode cX8_orthogonal 28 = .ok (.aaload, 1) := by decide +kernel
theorem dX8_orthogonal_29 : decode cX8_orthogonal 29 = .ok (.lconst 0, 1) := by decide +kernel
theorem dX8_orthogonal_30 : decode cX8_orthogonal 30 = .ok (.lconst 1, 1) := by decide +kernel
theorem dX8_orthogonal_31 : decode cX8_orthogonal 31 = .ok (.invokevirtual 84, 3) := by decide +kernel
theorem dX8_orthogonal_34 : decode cX8_orthogonal 34 = .ok (.aload_n 3, 1) := by decide +kernel
theorem dX8_orthogonal_35 : decode cX8_orthogonal 35 = .ok (.iload 5, 2) := by decide +kernel
theorem dX8_orthogonal_37 : decode cX8_orthogonal 37 = .ok (.aaload, 1) := by decide +kernel
theorem dX8_orthogonal_38 : decode cX8_orthogonal 38 = .ok (.iload 5, 2) := by decide +kernel
theorem dX8_orthogonal_40 : decode cX8_orthogonal 40 = .ok (.ifCond .ne 7, 3) := by decide +kernel
theorem dX8_orthogonal_43 : decode cX8_orthogonal 43 = .ok (.lconst 1, 1) := by decide +kernel
theorem dX8_orthogonal_44 : decode cX8_orthogonal 44 = .ok (.goto 4, 3) := by decide +kernel
theorem dX8_orthogonal_47 : decode cX8_orthogonal 47 = .ok (.lconst 0, 1) := by decide +kernel
theorem dX8_orthogonal_48 : decode cX8_orthogonal 48 = .ok (.lconst 1, 1) := by decide +kernel
theorem dX8_orthogonal_49 : decode cX8_orthogonal 49 = .ok (.invokevirtual 84, 3) := by decide +kernel
theorem dX8_orthogonal_52 : decode cX8_orthogonal 52 = .ok (.aload 4, 2) := by decide +kernel
theorem dX8_orthogonal_54 : decode cX8_orthogonal 54 = .ok (.iload 5, 2) := by decide +kernel
theorem dX8_orthogonal_56 : decode cX8_orthogonal 56 = .ok (.aaload, 1) := by decide +kernel
theorem dX8_orthogonal_57 : decode cX8_orthogonal 57 = .ok (.lconst 0, 1) := by decide +kernel
theorem dX8_orthogonal_58 : decode cX8_orthogonal 58 = .ok (.lconst 1, 1) := by decide +kernel
theorem dX8_orthogonal_59 : decode cX8_orthogonal 59 = .ok (.invokevirtual 84, 3) := by decide +kernel
theorem dX8_orthogonal_62 : decode cX8_orthogonal 62 = .ok (.iinc 5 1, 3) := by decide +kernel
theorem dX8_orthogonal_65 : decode cX8_orthogonal 65 = .ok (.goto (-46), 3) := by decide +kernel
theorem dX8_orthogonal_68 : decode cX8_orthogonal 68 = .ok (.iconst 0, 1) := by decide +kernel
theorem dX8_orthogonal_69 : decode cX8_orthogonal 69 = .ok (.istore 5, 2) := by decide +kernel
theorem dX8_orthogonal_71 : decode cX8_orthogonal 71 = .ok (.iload 5, 2) := by decide +kernel
theorem dX8_orthogonal_73 : decode cX8_orthogonal 73 = .ok (.iload_n 1, 1) := by decide +kernel
theorem dX8_orthogonal_74 : decode cX8_orthogonal 74 = .ok (.if_icmp .ge 40, 3) := by decide +kernel
theorem dX8_orthogonal_77 : decode cX8_orthogonal 77 = .ok (.iload 5, 2) := by decide +kernel
theorem dX8_orthogonal_79 : decode cX8_orthogonal 79 = .ok (.aload_n 0, 1) := by decide +kernel
theorem dX8_orthogonal_80 : decode cX8_orthogonal 80 = .ok (.getfield 9, 3) := by decide +kernel
theorem dX8_orthogonal_83 : decode cX8_orthogonal 83 = .ok (.if_icmp .ge 31, 3) := by decide +kernel
theorem dX8_orthogonal_86 : decode cX8_orthogonal 86 = .ok (.aload_n 0, 1) := by decide +kernel
theorem dX8_orthogonal_87 : decode cX8_orthogonal 87 = .ok (.iload 5, 2) := by decide +kernel
theorem dX8_orthogonal_89 : decode cX8_orthogonal 89 = .ok (.aload_n 2, 1) := by decide +kernel
theorem dX8_orthogonal_90 : decode cX8_orthogonal 90 = .ok (.aload_n 3, 1) := by decide +kernel
theorem dX8_orthogonal_91 : decode cX8_orthogonal 91 = .ok (.aload 4, 2) := by decide +kernel
theorem dX8_orthogonal_93 : decode cX8_orthogonal 93 = .ok (.invokevirtual 109, 3) := by decide +kernel
theorem dX8_orthogonal_96 : decode cX8_orthogonal 96 = .ok (.aload_n 2, 1) := by decide +kernel
theorem dX8_orthogonal_97 : decode cX8_orthogonal 97 = .ok (.astore 6, 2) := by decide +kernel
theorem dX8_orthogonal_99 : decode cX8_orthogonal 99 = .ok (.aload_n 3, 1) := by decide +kernel
theorem dX8_orthogonal_100 : decode cX8_orthogonal 100 = .ok (.astore_n 2, 1) := by decide +kernel
theorem dX8_orthogonal_101 : decode cX8_orthogonal 101 = .ok (.aload 4, 2) := by decide +kernel
theorem dX8_orthogonal_103 : decode cX8_orthogonal 103 = .ok (.astore_n 3, 1) := by decide +kernel
theorem dX8_orthogonal_104 : decode cX8_orthogonal 104 = .ok (.aload 6, 2) := by decide +kernel
theorem dX8_orthogonal_106 : decode cX8_orthogonal 106 = .ok (.astore 4, 2) := by decide +kernel
theorem dX8_orthogonal_108 : decode cX8_orthogonal 108 = .ok (.iinc 5 1, 3) := by decide +kernel
theorem dX8_orthogonal_111 : decode cX8_orthogonal 111 = .ok (.goto (-40), 3) := by decide +kernel
theorem dX8_orthogonal_114 : decode cX8_orthogonal 114 = .ok (.aload_n 3, 1) := by decide +kernel
theorem dX8_orthogonal_115 : decode cX8_orthogonal 115 = .ok (.areturn, 1) := by decide +kernel
theorem dX8_stepOn_0 : decode cX8_stepOn 0 = .ok (.iconst 0, 1) := by decide +kernel
theorem dX8_stepOn_1 : decode cX8_stepOn 1 = .ok (.istore 5, 2) := by decide +kernel
theorem dX8_stepOn_3 : decode cX8_stepOn 3 = .ok (.iload 5, 2) := by decide +kernel
theorem dX8_stepOn_5 : decode cX8_stepOn 5 = .ok (.iload_n 1, 1) := by decide +kernel
theorem dX8_stepOn_6 : decode cX8_stepOn 6 = .ok (.iconst 1, 1) := by decide +kernel
theorem dX8_stepOn_7 : decode cX8_stepOn 7 = .ok (.iadd, 1) := by decide +kernel
theorem dX8_stepOn_8 : decode cX8_stepOn 8 = .ok (.if_icmp .gt 116, 3) := by decide +kernel
theorem dX8_stepOn_11 : decode cX8_stepOn 11 = .ok (.aload 4, 2) := by decide +kernel
theorem dX8_stepOn_13 : decode cX8_stepOn 13 = .ok (.iload 5, 2) := by decide +kernel
theorem dX8_stepOn_15 : decode cX8_stepOn 15 = .ok (.aaload, 1) := by decide +kernel
theorem dX8_stepOn_16 : decode cX8_stepOn 16 = .ok (.lconst 0, 1) := by decide +kernel
theorem dX8_stepOn_17 : decode cX8_stepOn 17 = .ok (.lconst 1, 1) := by decide +kernel
theorem dX8_stepOn_18 : decode cX8_stepOn 18 = .ok (.invokevirtual 84, 3) := by decide +kernel
theorem dX8_stepOn_21 : decode cX8_stepOn 21 = .ok (.iload 5, 2) := by decide +kernel
theorem dX8_stepOn_23 : decode cX8_stepOn 23 = .ok (.ifCond .le 17, 3) := by decide +kernel
theorem dX8_stepOn_26 : decode cX8_stepOn 26 = .ok (.aload 4, 2) := by decide +kernel
theorem dX8_stepOn_28 : decode cX8_stepOn 28 = .ok (.iload 5, 2) := by decide +kernel
theorem dX8_stepOn_30 : decode cX8_stepOn 30 = .ok (.aaload, 1) := by decide +kernel
theorem dX8_stepOn_31 : decode cX8_stepOn 31 = .ok (.aload_n 3, 1) := by decide +kernel
theorem dX8_stepOn_32 : decode cX8_stepOn 32 = .ok (.iload 5, 2) := by decide +kernel
theorem dX8_stepOn_34 : decode cX8_stepOn 34 = .ok (.iconst 1, 1) := by decide +kernel
theorem dX8_stepOn_35 : decode cX8_stepOn 35 = .ok (.isub, 1) := by decide +kernel
theorem dX8_stepOn_36 : decode cX8_stepOn 36 = .ok (.aaload, 1) := by decide +kernel
theorem dX8_stepOn_37 : decode cX8_stepOn 37 = .ok (.invokevirtual 88, 3) := by decide +kernel
theorem dX8_stepOn_40 : decode cX8_stepOn 40 = .ok (.aload_n 0, 1) := by decide +kernel
theorem dX8_stepOn_41 : decode cX8_stepOn 41 = .ok (.getfield 44, 3) := by decide +kernel
theorem dX8_stepOn_44 : decode cX8_stepOn 44 = .ok (.aload_n 0, 1) := by decide +kernel
theorem dX8_stepOn_45 : decode cX8_stepOn 45 = .ok (.getfield 21, 3) := by decide +kernel
theorem dX8_stepOn_48 : decode cX8_stepOn 48 = .ok (.iload_n 1, 1) := by decide +kernel
theorem dX8_stepOn_49 : decode cX8_stepOn 49 = .ok (.aaload, 1) := by decide +kernel
theorem dX8_stepOn_50 : decode cX8_stepOn 50 = .ok (.invokevirtual 88, 3) := by decide +kernel
theorem dX8_stepOn_53 : decode cX8_stepOn 53 = .ok (.aload_n 0, 1) := by decide +kernel
theorem dX8_stepOn_54 : decode cX8_stepOn 54 = .ok (.getfield 44, 3) := by decide +kernel
theorem dX8_stepOn_57 : decode cX8_stepOn 57 = .ok (.aload_n 3, 1) := by decide +kernel
theorem dX8_stepOn_58 : decode cX8_stepOn 58 = .ok (.iload 5, 2) := by decide +kernel
theorem dX8_stepOn_60 : decode cX8_stepOn 60 = .ok (.aaload, 1) := by decide +kernel
theorem dX8_stepOn_61 : decode cX8_stepOn 61 = .ok (.invokevirtual 103, 3) := by decide +kernel
theorem dX8_stepOn_64 : decode cX8_stepOn 64 = .ok (.aload 4, 2) := by decide +kernel
theorem dX8_stepOn_66 : decode cX8_stepOn 66 = .ok (.iload 5, 2) := by decide +kernel
theorem dX8_stepOn_68 : decode cX8_stepOn 68 = .ok (.aaload, 1) := by decide +kernel
theorem dX8_stepOn_69 : decode cX8_stepOn 69 = .ok (.aload_n 0, 1) := by decide +kernel
theorem dX8_stepOn_70 : decode cX8_stepOn 70 = .ok (.getfield 44, 3) := by decide +kernel
theorem dX8_stepOn_73 : decode cX8_stepOn 73 = .ok (.invokevirtual 92, 3) := by decide +kernel
theorem dX8_stepOn_76 : decode cX8_stepOn 76 = .ok (.iload_n 1, 1) := by decide +kernel
theorem dX8_stepOn_77 : decode cX8_stepOn 77 = .ok (.ifCond .le 41, 3) := by decide +kernel
theorem dX8_stepOn_80 : decode cX8_stepOn 80 = .ok (.aload_n 0, 1) := by decide +kernel
theorem dX8_stepOn_81 : decode cX8_stepOn 81 = .ok (.getfield 44, 3) := by decide +kernel
theorem dX8_stepOn_84 : decode cX8_stepOn 84 = .ok (.aload_n 0, 1) := by decide +kernel
theorem dX8_stepOn_85 : decode cX8_stepOn 85 = .ok (.getfield 25, 3) := by decide +kernel
theorem dX8_stepOn_88 : decode cX8_stepOn 88 = .ok (.iload_n 1, 1) := by decide +kernel
theorem dX8_stepOn_89 : decode cX8_stepOn 89 = .ok (.iconst 1, 1) := by decide +kernel
theorem dX8_stepOn_90 : decode cX8_stepOn 90 = .ok (.isub, 1) := by decide +kernel
theorem dX8_stepOn_91 : decode cX8_stepOn 91 = .ok (.aaload, 1) := by decide +kernel
theorem dX8_stepOn_92 : decode cX8_stepOn 92 = .ok (.invokevirtual 88, 3) := by decide +kernel
theorem dX8_stepOn_95 : decode cX8_stepOn 95 = .ok (.aload_n 0, 1) := by decide +kernel
theorem dX8_stepOn_96 : decode cX8_stepOn 96 = .ok (.getfield 44, 3) := by decide +kernel
theorem dX8_stepOn_99 : decode cX8_stepOn 99 = .ok (.aload_n 2, 1) := by decide +kernel
theorem dX8_stepOn_100 : decode cX8_stepOn 100 = .ok (.iload 5, 2) := by decide +kernel
theorem dX8_stepOn_102 : decode cX8_stepOn 102 = .ok (.aaload, 1) := by decide +kernel
theorem dX8_stepOn_103 : decode cX8_stepOn 103 = .ok (.invokevirtual 103, 3) := by decide +kernel
theorem dX8_stepOn_106 : decode cX8_stepOn 106 = .ok (.aload 4, 2) := by decide +kernel
theorem dX8_stepOn_108 : decode cX8_stepOn 108 = .ok (.iload 5, 2) := by decide +kernel
theorem dX8_stepOn_110 : decode cX8_stepOn 110 = .ok (.aaload, 1) := by decide +kernel
theorem dX8_stepOn_111 : decode cX8_stepOn 111 = .ok (.aload_n 0, 1) := by decide +kernel
theorem dX8_stepOn_112 : decode cX8_stepOn 112 = .ok (.getfield 44, 3) := by decide +kernel
theorem dX8_stepOn_115 : decode cX8_stepOn 115 = .ok (.invokevirtual 92, 3) := by decide +kernel
theorem dX8_stepOn_118 : decode cX8_stepOn 118 = .ok (.iinc 5 1, 3) := by decide +kernel
theorem dX8_stepOn_121 : decode cX8_stepOn 121 = .ok (.goto (-118), 3) := by decide +kernel
theorem dX8_stepOn_124 : decode cX8_stepOn 124 = .ok (.return_, 1) := by decide +kernel
theorem dX8_cutShort_0 : decode cX8_cutShort 0 = .ok (.aload_n 3, 1) := by decide +kernel
theorem dX8_cutShort_1 : decode cX8_cutShort 1 = .ok (.lconst 0, 1) := by decide +kernel
theorem dX8_cutShort_2 : decode cX8_cutShort 2 = .ok (.lconst 1, 1) := by decide +kernel
theorem dX8_cutShort_3 : decode cX8_cutShort 3 = .ok (.invokevirtual 84, 3) := by decide +kernel
theorem dX8_cutShort_6 : decode cX8_cutShort 6 = .ok (.iload_n 1, 1) := by decide +kernel
theorem dX8_cutShort_7 : decode cX8_cutShort 7 = .ok (.aload_n 0, 1) := by decide +kernel
theorem dX8_cutShort_8 : decode cX8_cutShort 8 = .ok (.getfield 9, 3) := by decide +kernel
theorem dX8_cutShort_11 : decode cX8_cutShort 11 = .ok (.invokestatic 113, 3) := by decide +kernel
theorem dX8_cutShort_14 : decode cX8_cutShort 14 = .ok (.iconst 1, 1) := by decide +kernel
theorem dX8_cutShort_15 : decode cX8_cutShort 15 = .ok (.isub, 1) := by decide +kernel
theorem dX8_cutShort_16 : decode cX8_cutShort 16 = .ok (.istore 4, 2) := by decide +kernel
theorem dX8_cutShort_18 : decode cX8_cutShort 18 = .ok (.iload 4, 2) := by decide +kernel
theorem dX8_cutShort_20 : decode cX8_cutShort 20 = .ok (.ifCond .lt 85, 3) := by decide +kernel
theorem dX8_cutShort_23 : decode cX8_cutShort 23 = .ok (.aload_n 0, 1) := by decide +kernel
theorem dX8_cutShort_24 : decode cX8_cutShort 24 = .ok (.getfield 44, 3) := by decide +kernel
theorem dX8_cutShort_27 : decode cX8_cutShort 27 = .ok (.iload_n 2, 1) := by decide +kernel
theorem dX8_cutShort_28 : decode cX8_cutShort 28 = .ok (.i2l, 1) := by decide +kernel
theorem dX8_cutShort_29 : decode cX8_cutShort 29 = .ok (.lconst 1, 1) := by decide +kernel
theorem dX8_cutShort_30 : decode cX8_cutShort 30 = .ok (.invokevirtual 84, 3) := by decide +kernel
theorem dX8_cutShort_33 : decode cX8_cutShort 33 = .ok (.aload_n 0, 1) := by decide +kernel
theorem dX8_cutShort_34 : decode cX8_cutShort 34 = .ok (.getfield 44, 3) := by decide +kernel
theorem dX8_cutShort_37 : decode cX8_cutShort 37 = .ok (.aload_n 0, 1) := by decide +kernel
theorem dX8_cutShort_38 : decode cX8_cutShort 38 = .ok (.getfield 21, 3) := by decide +kernel
theorem dX8_cutShort_41 : decode cX8_cutShort 41 = .ok (.iload 4, 2) := by decide +kernel
theorem dX8_cutShort_43 : decode cX8_cutShort 43 = .ok (.aaload, 1) := by decide +kernel
theorem dX8_cutShort_44 : decode cX8_cutShort 44 = .ok (.invokevirtual 92, 3) := by decide +kernel
theorem dX8_cutShort_47 : decode cX8_cutShort 47 = .ok (.aload_n 0, 1) := by decide +kernel
theorem dX8_cutShort_48 : decode cX8_cutShort 48 = .ok (.getfield 44, 3) := by decide +kernel
theorem dX8_cutShort_51 : decode cX8_cutShort 51 = .ok (.aload_n 3, 1) := by decide +kernel
theorem dX8_cutShort_52 : decode cX8_cutShort 52 = .ok (.invokevirtual 92, 3) := by decide +kernel
theorem dX8_cutShort_55 : decode cX8_cutShort 55 = .ok (.aload_n 0, 1) := by decide +kernel
theorem dX8_cutShort_56 : decode cX8_cutShort 56 = .ok (.getfield 44, 3) := by decide +kernel
theorem dX8_cutShort_59 : decode cX8_cutShort 59 = .ok (.invokevirtual 119, 3) := by decide +kernel
theorem dX8_cutShort_62 : decode cX8_cutShort 62 = .ok (.ifCond .eq 5, 3) := by decide +kernel
theorem dX8_cutShort_65 : decode cX8_cutShort 65 = .ok (.iconst 0, 1) := by decide +kernel
theorem dX8_cutShort_66 : decode cX8_cutShort 66 = .ok (.ireturn, 1) := by decide +kernel
theorem dX8_cutShort_67 : decode cX8_cutShort 67 = .ok (.aload_n 3, 1) := by decide +kernel
theorem dX8_cutShort_68 : decode cX8_cutShort 68 = .ok (.lconst 1, 1) := by decide +kernel
theorem dX8_cutShort_69 : decode cX8_cutShort 69 = .ok (.lconst 1, 1) := by decide +kernel
theorem dX8_cutShort_70 : decode cX8_cutShort 70 = .ok (.invokevirtual 84, 3) := by decide +kernel
theorem dX8_cutShort_73 : decode cX8_cutShort 73 = .ok (.iload 4, 2) := by decide +kernel
theorem dX8_cutShort_75 : decode cX8_cutShort 75 = .ok (.ifCond .le 16, 3) := by decide +kernel
theorem dX8_cutShort_78 : decode cX8_cutShort 78 = .ok (.aload_n 3, 1) := by decide +kernel
theorem dX8_cutShort_79 : decode cX8_cutShort 79 = .ok (.aload_n 0, 1) := by decide +kernel
theorem dX8_cutShort_80 : decode cX8_cutShort 80 = .ok (.getfield 25, 3) := by decide +kernel
theorem dX8_cutShort_83 : decode cX8_cutShort 83 = .ok (.iload 4, 2) := by decide +kernel
theorem dX8_cutShort_85 : decode cX8_cutShort 85 = .ok (.iconst 1, 1) := by decide +kernel
theorem dX8_cutShort_86 : decode cX8_cutShort 86 = .ok (.isub, 1) := by decide +kernel
theorem dX8_cutShort_87 : decode cX8_cutShort 87 = .ok (.aaload, 1) := by decide +kernel
theorem dX8_cutShort_88 : decode cX8_cutShort 88 = .ok (.invokevirtual 88, 3) := by decide +kernel
theorem dX8_cutShort_91 : decode cX8_cutShort 91 = .ok (.aload_n 3, 1) := by decide +kernel
theorem dX8_cutShort_92 : decode cX8_cutShort 92 = .ok (.aload_n 0, 1) := by decide +kernel
theorem dX8_cutShort_93 : decode cX8_cutShort 93 = .ok (.getfield 44, 3) := by decide +kernel
theorem dX8_cutShort_96 : decode cX8_cutShort 96 = .ok (.invokevirtual 106, 3) := by decide +kernel
theorem dX8_cutShort_99 : decode cX8_cutShort 99 = .ok (.iinc 4 (-1), 3) := by decide +kernel
theorem dX8_cutShort_102 : decode cX8_cutShort 102 = .ok (.goto (-84), 3) := by decide +kernel
theorem dX8_cutShort_105 : decode cX8_cutShort 105 = .ok (.iconst 1, 1) := by decide +kernel
theorem dX8_cutShort_106 : decode cX8_cutShort 106 = .ok (.ireturn, 1) := by decide +kernel
theorem dX8_addSquares_0 : decode cX8_addSquares 0 = .ok (.aload_n 2, 1) := by decide +kernel
theorem dX8_addSquares_1 : decode cX8_addSquares 1 = .ok (.lconst 0, 1) := by decide +kernel
theorem dX8_addSquares_2 : decode cX8_addSquares 2 = .ok (.lconst 1, 1) := by decide +kernel
theorem dX8_addSquares_3 : decode cX8_addSquares 3 = .ok (.invokevirtual 84, 3) := by decide +kernel
theorem dX8_addSquares_6 : decode cX8_addSquares 6 = .ok (.aload_n 0, 1) := by decide +kernel
theorem dX8_addSquares_7 : decode cX8_addSquares 7 = .ok (.getfield 48, 3) := by decide +kernel
theorem dX8_addSquares_10 : decode cX8_addSquares 10 = .ok (.lconst 0, 1) := by decide +kernel
theorem dX8_addSquares_11 : decode cX8_addSquares 11 = .ok (.lconst 1, 1) := by decide +kernel
theorem dX8_addSquares_12 : decode cX8_addSquares 12 = .ok (.invokevirtual 84, 3) := by decide +kernel
theorem dX8_addSquares_15 : decode cX8_addSquares 15 = .ok (.aload_n 0, 1) := by decide +kernel
theorem dX8_addSquares_16 : decode cX8_addSquares 16 = .ok (.getfield 51, 3) := by decide +kernel
theorem dX8_addSquares_19 : decode cX8_addSquares 19 = .ok (.lconst 1, 1) := by decide +kernel
theorem dX8_addSquares_20 : decode cX8_addSquares 20 = .ok (.lconst 1, 1) := by decide +kernel
theorem dX8_addSquares_21 : decode cX8_addSquares 21 = .ok (.invokevirtual 84, 3) := by decide +kernel
theorem dX8_addSquares_24 : decode cX8_addSquares 24 = .ok (.aload_n 0, 1) := by decide +kernel
theorem dX8_addSquares_25 : decode cX8_addSquares 25 = .ok (.getfield 57, 3) := by decide +kernel
theorem dX8_addSquares_28 : decode cX8_addSquares 28 = .ok (.lconst 1, 1) := by decide +kernel
theorem dX8_addSquares_29 : decode cX8_addSquares 29 = .ok (.lconst 1, 1) := by decide +kernel
theorem dX8_addSquares_30 : decode cX8_addSquares 30 = .ok (.invokevirtual 84, 3) := by decide +kernel
theorem dX8_addSquares_33 : decode cX8_addSquares 33 = .ok (.iconst 0, 1) := by decide +kernel
theorem dX8_addSquares_34 : decode cX8_addSquares 34 = .ok (.istore_n 3, 1) := by decide +kernel
theorem dX8_addSquares_35 : decode cX8_addSquares 35 = .ok (.iload_n 3, 1) := by decide +kernel
theorem dX8_addSquares_36 : decode cX8_addSquares 36 = .ok (.aload_n 0, 1) := by decide +kernel
theorem dX8_addSquares_37 : decode cX8_addSquares 37 = .ok (.getfield 9, 3) := by decide +kernel
theorem dX8_addSquares_40 : decode cX8_addSquares 40 = .ok (.if_icmp .ge 166, 3) := by decide +kernel
theorem dX8_addSquares_43 : decode cX8_addSquares 43 = .ok (.iload_n 3, 1) := by decide +kernel
theorem dX8_addSquares_44 : decode cX8_addSquares 44 = .ok (.ifCond .le 18, 3) := by decide +kernel
theorem dX8_addSquares_47 : decode cX8_addSquares 47 = .ok (.aload_n 0, 1) := by decide +kernel
theorem dX8_addSquares_48 : decode cX8_addSquares 48 = .ok (.getfield 57, 3) := by decide +kernel
theorem dX8_addSquares_51 : decode cX8_addSquares 51 = .ok (.aload_n 0, 1) := by decide +kernel
theorem dX8_addSquares_52 : decode cX8_addSquares 52 = .ok (.getfield 25, 3) := by decide +kernel
theorem dX8_addSquares_55 : decode cX8_addSquares 55 = .ok (.iload_n 3, 1) := by decide +kernel
theorem dX8_addSquares_56 : decode cX8_addSquares 56 = .ok (.iconst 1, 1) := by decide +kernel
theorem dX8_addSquares_57 : decode cX8_addSquares 57 = .ok (.isub, 1) := by decide +kernel
theorem dX8_addSquares_58 : decode cX8_addSquares 58 = .ok (.aaload, 1) := by decide +kernel
theorem dX8_addSquares_59 : decode cX8_addSquares 59 = .ok (.invokevirtual 103, 3) := by decide +kernel
theorem dX8_addSquares_62 : decode cX8_addSquares 62 = .ok (.aload_n 0, 1) := by decide +kernel
theorem dX8_addSquares_63 : decode cX8_addSquares 63 = .ok (.getfield 44, 3) := by decide +kernel
theorem dX8_addSquares_66 : decode cX8_addSquares 66 = .ok (.aload_n 0, 1) := by decide +kernel
theorem dX8_addSquares_67 : decode cX8_addSquares 67 = .ok (.getfield 51, 3) := by decide +kernel
theorem dX8_addSquares_70 : decode cX8_addSquares 70 = .ok (.invokevirtual 88, 3) := by decide +kernel
theorem dX8_addSquares_73 : decode cX8_addSquares 73 = .ok (.aload_n 0, 1) := by decide +kernel
theorem dX8_addSquares_74 : decode cX8_addSquares 74 = .ok (.getfield 44, 3) := by decide +kernel
theorem dX8_addSquares_77 : decode cX8_addSquares 77 = .ok (.aload_n 0, 1) := by decide +kernel
theorem dX8_addSquares_78 : decode cX8_addSquares 78 = .ok (.getfield 51, 3) := by decide +kernel
theorem dX8_addSquares_81 : decode cX8_addSquares 81 = .ok (.invokevirtual 103, 3) := by decide +kernel
theorem dX8_addSquares_84 : decode cX8_addSquares 84 = .ok (.aload_n 0, 1) := by decide +kernel
theorem dX8_addSquares_85 : decode cX8_addSquares 85 = .ok (.getfield 44, 3) := by decide +kernel
theorem dX8_addSquares_88 : decode cX8_addSquares 88 = .ok (.aload_n 0, 1) := by decide +kernel
theorem dX8_addSquares_89 : decode cX8_addSquares 89 = .ok (.getfield 57, 3) := by decide +kernel
theorem dX8_addSquares_92 : decode cX8_addSquares 92 = .ok (.invokevirtual 106, 3) := by decide +kernel
theorem dX8_addSquares_95 : decode cX8_addSquares 95 = .ok (.aload_n 2, 1) := by decide +kernel
theorem dX8_addSquares_96 : decode cX8_addSquares 96 = .ok (.aload_n 0, 1) := by decide +kernel
theorem dX8_addSquares_97 : decode cX8_addSquares 97 = .ok (.getfield 44, 3) := by decide +kernel
theorem dX8_addSquares_100 : decode cX8_addSquares 100 = .ok (.invokevirtual 123, 3) := by decide +kernel
theorem dX8_addSquares_103 : decode cX8_addSquares 103 = .ok (.aload_n 0, 1) := by decide +kernel
theorem dX8_addSquares_104 : decode cX8_addSquares 104 = .ok (.getfield 54, 3) := by decide +kernel
theorem dX8_addSquares_107 : decode cX8_addSquares 107 = .ok (.iload_n 1, 1) := by decide +kernel
theorem dX8_addSquares_108 : decode cX8_addSquares 108 = .ok (.i2l, 1) := by decide +kernel
theorem dX8_addSquares_109 : decode cX8_addSquares 109 = .ok (.lconst 1, 1) := by decide +kernel
theorem dX8_addSquares_110 : decode cX8_addSquares 110 = .ok (.invokevirtual 84, 3) := by decide +kernel
theorem dX8_addSquares_113 : decode cX8_addSquares 113 = .ok (.aload_n 0, 1) := by decide +kernel
theorem dX8_addSquares_114 : decode cX8_addSquares 114 = .ok (.getfield 54, 3) := by decide +kernel
theorem dX8_addSquares_117 : decode cX8_addSquares 117 = .ok (.aload_n 0, 1) := by decide +kernel
theorem dX8_addSquares_118 : decode cX8_addSquares 118 = .ok (.getfield 21, 3) := by decide +kernel
theorem dX8_addSquares_121 : decode cX8_addSquares 121 = .ok (.iload_n 3, 1) := by decide +kernel
theorem dX8_addSquares_122 : decode cX8_addSquares 122 = .ok (.aaload, 1) := by decide +kernel
theorem dX8_addSquares_123 : decode cX8_addSquares 123 = .ok (.invokevirtual 92, 3) := by decide +kernel
theorem dX8_addSquares_126 : decode cX8_addSquares 126 = .ok (.aload_n 0, 1) := by decide +kernel
theorem dX8_addSquares_127 : decode cX8_addSquares 127 = .ok (.getfield 54, 3) := by decide +kernel
theorem dX8_addSquares_130 : decode cX8_addSquares 130 = .ok (.aload_n 0, 1) := by decide +kernel
theorem dX8_addSquares_131 : decode cX8_addSquares 131 = .ok (.getfield 51, 3) := by decide +kernel
theorem dX8_addSquares_134 : decode cX8_addSquares 134 = .ok (.invokevirtual 103, 3) := by decide +kernel
theorem dX8_addSquares_137 : decode cX8_addSquares 137 = .ok (.iload_n 3, 1) := by decide +kernel
theorem dX8_addSquares_138 : decode cX8_addSquares 138 = .ok (.ifCond .le 40, 3) := by decide +kernel
theorem dX8_addSquares_141 : decode cX8_addSquares 141 = .ok (.aload_n 0, 1) := by decide +kernel
theorem dX8_addSquares_142 : decode cX8_addSquares 142 = .ok (.getfield 44, 3) := by decide +kernel
theorem dX8_addSquares_145 : decode cX8_addSquares 145 = .ok (.aload_n 0, 1) := by decide +kernel
theorem dX8_addSquares_146 : decode cX8_addSquares 146 = .ok (.getfield 25, 3) := by decide +kernel
theorem dX8_addSquares_149 : decode cX8_addSquares 149 = .ok (.iload_n 3, 1) := by decide +kernel
theorem dX8_addSquares_150 : decode cX8_addSquares 150 = .ok (.iconst 1, 1) := by decide +kernel
theorem dX8_addSquares_151 : decode cX8_addSquares 151 = .ok (.isub, 1) := by decide +kernel
theorem dX8_addSquares_152 : decode cX8_addSquares 152 = .ok (.aaload, 1) := by decide +kernel
theorem dX8_addSquares_153 : decode cX8_addSquares 153 = .ok (.invokevirtual 88, 3) := by decide +kernel
theorem dX8_addSquares_156 : decode cX8_addSquares 156 = .ok (.aload_n 0, 1) := by decide +kernel
theorem dX8_addSquares_157 : decode cX8_addSquares 157 = .ok (.getfield 44, 3) := by decide +kernel
theorem dX8_addSquares_160 : decode cX8_addSquares 160 = .ok (.aload_n 0, 1) := by decide +kernel
theorem dX8_addSquares_161 : decode cX8_addSquares 161 = .ok (.getfield 48, 3) := by decide +kernel
theorem dX8_addSquares_164 : decode cX8_addSquares 164 = .ok (.invokevirtual 103, 3) := by decide +kernel
theorem dX8_addSquares_167 : decode cX8_addSquares 167 = .ok (.aload_n 0, 1) := by decide +kernel
theorem dX8_addSquares_168 : decode cX8_addSquares 168 = .ok (.getfield 54, 3) := by decide +kernel
theorem dX8_addSquares_171 : decode cX8_addSquares 171 = .ok (.aload_n 0, 1) := by decide +kernel
theorem dX8_addSquares_172 : decode cX8_addSquares 172 = .ok (.getfield 44, 3) := by decide +kernel
theorem dX8_addSquares_175 : decode cX8_addSquares 175 = .ok (.invokevirtual 92, 3) := by decide +kernel
theorem dX8_addSquares_178 : decode cX8_addSquares 178 = .ok (.aload_n 0, 1) := by decide +kernel
theorem dX8_addSquares_179 : decode cX8_addSquares 179 = .ok (.getfield 48, 3) := by decide +kernel
theorem dX8_addSquares_182 : decode cX8_addSquares 182 = .ok (.aload_n 0, 1) := by decide +kernel
theorem dX8_addSquares_183 : decode cX8_addSquares 183 = .ok (.getfield 51, 3) := by decide +kernel
theorem dX8_addSquares_186 : decode cX8_addSquares 186 = .ok (.invokevirtual 88, 3) := by decide +kernel
theorem dX8_addSquares_189 : decode cX8_addSquares 189 = .ok (.aload_n 0, 1) := by decide +kernel
theorem dX8_addSquares_190 : decode cX8_addSquares 190 = .ok (.getfield 51, 3) := by decide +kernel
theorem dX8_addSquares_193 : decode cX8_addSquares 193 = .ok (.aload_n 0, 1) := by decide +kernel
theorem dX8_addSquares_194 : decode cX8_addSquares 194 = .ok (.getfield 54, 3) := by decide +kernel
theorem dX8_addSquares_197 : decode cX8_addSquares 197 = .ok (.invokevirtual 88, 3) := by decide +kernel
theorem dX8_addSquares_200 : decode cX8_addSquares 200 = .ok (.iinc 3 1, 3) := by decide +kernel
theorem dX8_addSquares_203 : decode cX8_addSquares 203 = .ok (.goto (-168), 3) := by decide +kernel
theorem dX8_addSquares_206 : decode cX8_addSquares 206 = .ok (.return_, 1) := by decide +kernel
theorem dX8_hang_0 : decode cX8_hang 0 = .ok (.aload_n 0, 1) := by decide +kernel
theorem dX8_hang_1 : decode cX8_hang 1 = .ok (.getfield 9, 3) := by decide +kernel
theorem dX8_hang_4 : decode cX8_hang 4 = .ok (.iconst 1, 1) := by decide +kernel
theorem dX8_hang_5 : decode cX8_hang 5 = .ok (.iconst 3, 1) := by decide +kernel
theorem dX8_hang_6 : decode cX8_hang 6 = .ok (.invokestatic 126, 3) := by decide +kernel
theorem dX8_hang_9 : decode cX8_hang 9 = .ok (.ifCond .ne 4, 3) := by decide +kernel
theorem dX8_hang_12 : decode cX8_hang 12 = .ok (.return_, 1) := by decide +kernel
theorem dX8_hang_13 : decode cX8_hang 13 = .ok (.aload_n 0, 1) := by decide +kernel
theorem dX8_hang_14 : decode cX8_hang 14 = .ok (.getfield 9, 3) := by decide +kernel
theorem dX8_hang_17 : decode cX8_hang 17 = .ok (.iconst 1, 1) := by decide +kernel
theorem dX8_hang_18 : decode cX8_hang 18 = .ok (.isub, 1) := by decide +kernel
theorem dX8_hang_19 : decode cX8_hang 19 = .ok (.istore_n 1, 1) := by decide +kernel
theorem dX8_hang_20 : decode cX8_hang 20 = .ok (.aload_n 0, 1) := by decide +kernel
theorem dX8_hang_21 : decode cX8_hang 21 = .ok (.getfield 28, 3) := by decide +kernel
theorem dX8_hang_24 : decode cX8_hang 24 = .ok (.iload_n 1, 1) := by decide +kernel
theorem dX8_hang_25 : decode cX8_hang 25 = .ok (.aaload, 1) := by decide +kernel
theorem dX8_hang_26 : decode cX8_hang 26 = .ok (.lconst 1, 1) := by decide +kernel
theorem dX8_hang_27 : decode cX8_hang 27 = .ok (.lconst 1, 1) := by decide +kernel
theorem dX8_hang_28 : decode cX8_hang 28 = .ok (.invokevirtual 84, 3) := by decide +kernel
theorem dX8_hang_31 : decode cX8_hang 31 = .ok (.aload_n 0, 1) := by decide +kernel
theorem dX8_hang_32 : decode cX8_hang 32 = .ok (.getfield 31, 3) := by decide +kernel
theorem dX8_hang_35 : decode cX8_hang 35 = .ok (.iload_n 1, 1) := by decide +kernel
theorem dX8_hang_36 : decode cX8_hang 36 = .ok (.aaload, 1) := by decide +kernel
theorem dX8_hang_37 : decode cX8_hang 37 = .ok (.aload_n 0, 1) := by decide +kernel
theorem dX8_hang_38 : decode cX8_hang 38 = .ok (.getfield 21, 3) := by decide +kernel
theorem dX8_hang_41 : decode cX8_hang 41 = .ok (.iload_n 1, 1) := by decide +kernel
theorem dX8_hang_42 : decode cX8_hang 42 = .ok (.aaload, 1) := by decide +kernel
theorem dX8_hang_43 : decode cX8_hang 43 = .ok (.invokevirtual 88, 3) := by decide +kernel
theorem dX8_hang_46 : decode cX8_hang 46 = .ok (.iload_n 1, 1) := by decide +kernel
theorem dX8_hang_47 : decode cX8_hang 47 = .ok (.iconst 1, 1) := by decide +kernel
theorem dX8_hang_48 : decode cX8_hang 48 = .ok (.isub, 1) := by decide +kernel
theorem dX8_hang_49 : decode cX8_hang 49 = .ok (.istore_n 2, 1) := by decide +kernel
theorem dX8_hang_50 : decode cX8_hang 50 = .ok (.iload_n 2, 1) := by decide +kernel
theorem dX8_hang_51 : decode cX8_hang 51 = .ok (.ifCond .lt 122, 3) := by decide +kernel
theorem dX8_hang_54 : decode cX8_hang 54 = .ok (.aload_n 0, 1) := by decide +kernel
theorem dX8_hang_55 : decode cX8_hang 55 = .ok (.getfield 28, 3) := by decide +kernel
theorem dX8_hang_58 : decode cX8_hang 58 = .ok (.iload_n 2, 1) := by decide +kernel
theorem dX8_hang_59 : decode cX8_hang 59 = .ok (.aaload, 1) := by decide +kernel
theorem dX8_hang_60 : decode cX8_hang 60 = .ok (.aload_n 0, 1) := by decide +kernel
theorem dX8_hang_61 : decode cX8_hang 61 = .ok (.getfield 31, 3) := by decide +kernel
theorem dX8_hang_64 : decode cX8_hang 64 = .ok (.iload_n 2, 1) := by decide +kernel
theorem dX8_hang_65 : decode cX8_hang 65 = .ok (.iconst 1, 1) := by decide +kernel
theorem dX8_hang_66 : decode cX8_hang 66 = .ok (.iadd, 1) := by decide +kernel
theorem dX8_hang_67 : decode cX8_hang 67 = .ok (.aaload, 1) := by decide +kernel
theorem dX8_hang_68 : decode cX8_hang 68 = .ok (.invokevirtual 88, 3) := by decide +kernel
theorem dX8_hang_71 : decode cX8_hang 71 = .ok (.aload_n 0, 1) := by decide +kernel
theorem dX8_hang_72 : decode cX8_hang 72 = .ok (.getfield 28, 3) := by decide +kernel
theorem dX8_hang_75 : decode cX8_hang 75 = .ok (.iload_n 2, 1) := by decide +kernel
theorem dX8_hang_76 : decode cX8_hang 76 = .ok (.aaload, 1) := by decide +kernel
theorem dX8_hang_77 : decode cX8_hang 77 = .ok (.aload_n 0, 1) := by decide +kernel
theorem dX8_hang_78 : decode cX8_hang 78 = .ok (.getfield 31, 3) := by decide +kernel
theorem dX8_hang_81 : decode cX8_hang 81 = .ok (.iload_n 2, 1) := by decide +kernel
theorem dX8_hang_82 : decode cX8_hang 82 = .ok (.iconst 1, 1) := by decide +kernel
theorem dX8_hang_83 : decode cX8_hang 83 = .ok (.iadd, 1) := by decide +kernel
theorem dX8_hang_84 : decode cX8_hang 84 = .ok (.aaload, 1) := by decide +kernel
theorem dX8_hang_85 : decode cX8_hang 85 = .ok (.invokevirtual 103, 3) := by decide +kernel
theorem dX8_hang_88 : decode cX8_hang 88 = .ok (.aload_n 0, 1) := by decide +kernel
theorem dX8_hang_89 : decode cX8_hang 89 = .ok (.getfield 28, 3) := by decide +kernel
theorem dX8_hang_92 : decode cX8_hang 92 = .ok (.iload_n 2, 1) := by decide +kernel
theorem dX8_hang_93 : decode cX8_hang 93 = .ok (.aaload, 1) := by decide +kernel
theorem dX8_hang_94 : decode cX8_hang 94 = .ok (.aload_n 0, 1) := by decide +kernel
theorem dX8_hang_95 : decode cX8_hang 95 = .ok (.getfield 25, 3) := by decide +kernel
theorem dX8_hang_98 : decode cX8_hang 98 = .ok (.iload_n 2, 1) := by decide +kernel
theorem dX8_hang_99 : decode cX8_hang 99 = .ok (.aaload, 1) := by decide +kernel
theorem dX8_hang_100 : decode cX8_hang 100 = .ok (.invokevirtual 106, 3) := by decide +kernel
theorem dX8_hang_103 : decode cX8_hang 103 = .ok (.aload_n 0, 1) := by decide +kernel
theorem dX8_hang_104 : decode cX8_hang 104 = .ok (.getfield 28, 3) := by decide +kernel
theorem dX8_hang_107 : decode cX8_hang 107 = .ok (.iload_n 2, 1) := by decide +kernel
theorem dX8_hang_108 : decode cX8_hang 108 = .ok (.aaload, 1) := by decide +kernel
theorem dX8_hang_109 : decode cX8_hang 109 = .ok (.aload_n 0, 1) := by decide +kernel
theorem dX8_hang_110 : decode cX8_hang 110 = .ok (.getfield 28, 3) := by decide +kernel
theorem dX8_hang_113 : decode cX8_hang 113 = .ok (.iload_n 2, 1) := by decide +kernel
theorem dX8_hang_114 : decode cX8_hang 114 = .ok (.iconst 1, 1) := by decide +kernel
theorem dX8_hang_115 : decode cX8_hang 115 = .ok (.iadd, 1) := by decide +kernel
theorem dX8_hang_116 : decode cX8_hang 116 = .ok (.aaload, 1) := by decide +kernel
theorem dX8_hang_117 : decode cX8_hang 117 = .ok (.invokevirtual 106, 3) := by decide +kernel
theorem dX8_hang_120 : decode cX8_hang 120 = .ok (.aload_n 0, 1) := by decide +kernel
theorem dX8_hang_121 : decode cX8_hang 121 = .ok (.getfield 31, 3) := by decide +kernel
theorem dX8_hang_124 : decode cX8_hang 124 = .ok (.iload_n 2, 1) := by decide +kernel
theorem dX8_hang_125 : decode cX8_hang 125 = .ok (.aaload, 1) := by decide +kernel
theorem dX8_hang_126 : decode cX8_hang 126 = .ok (.aload_n 0, 1) := by decide +kernel
theorem dX8_hang_127 : decode cX8_hang 127 = .ok (.getfield 21, 3) := by decide +kernel
theorem dX8_hang_130 : decode cX8_hang 130 = .ok (.iload_n 2, 1) := by decide +kernel
theorem dX8_hang_131 : decode cX8_hang 131 = .ok (.aaload, 1) := by decide +kernel
theorem dX8_hang_132 : decode cX8_hang 132 = .ok (.invokevirtual 88, 3) := by decide +kernel
theorem dX8_hang_135 : decode cX8_hang 135 = .ok (.aload_n 0, 1) := by decide +kernel
theorem dX8_hang_136 : decode cX8_hang 136 = .ok (.getfield 31, 3) := by decide +kernel
theorem dX8_hang_139 : decode cX8_hang 139 = .ok (.iload_n 2, 1) := by decide +kernel
theorem dX8_hang_140 : decode cX8_hang 140 = .ok (.aaload, 1) := by decide +kernel
theorem dX8_hang_141 : decode cX8_hang 141 = .ok (.aload_n 0, 1) := by decide +kernel
theorem dX8_hang_142 : decode cX8_hang 142 = .ok (.getfield 28, 3) := by decide +kernel
theorem dX8_hang_145 : decode cX8_hang 145 = .ok (.iload_n 2, 1) := by decide +kernel
theorem dX8_hang_146 : decode cX8_hang 146 = .ok (.aaload, 1) := by decide +kernel
theorem dX8_hang_147 : decode cX8_hang 147 = .ok (.invokevirtual 103, 3) := by decide +kernel
theorem dX8_hang_150 : decode cX8_hang 150 = .ok (.aload_n 0, 1) := by decide +kernel
theorem dX8_hang_151 : decode cX8_hang 151 = .ok (.getfield 31, 3) := by decide +kernel
theorem dX8_hang_154 : decode cX8_hang 154 = .ok (.iload_n 2, 1) := by decide +kernel
theorem dX8_hang_155 : decode cX8_hang 155 = .ok (.aaload, 1) := by decide +kernel
theorem dX8_hang_156 : decode cX8_hang 156 = .ok (.aload_n 0, 1) := by decide +kernel
theorem dX8_hang_157 : decode cX8_hang 157 = .ok (.getfield 31, 3) := by decide +kernel
theorem dX8_hang_160 : decode cX8_hang 160 = .ok (.iload_n 2, 1) := by decide +kernel
theorem dX8_hang_161 : decode cX8_hang 161 = .ok (.iconst 1, 1) := by decide +kernel
theorem dX8_hang_162 : decode cX8_hang 162 = .ok (.iadd, 1) := by decide +kernel
theorem dX8_hang_163 : decode cX8_hang 163 = .ok (.aaload, 1) := by decide +kernel
theorem dX8_hang_164 : decode cX8_hang 164 = .ok (.invokevirtual 92, 3) := by decide +kernel
theorem dX8_hang_167 : decode cX8_hang 167 = .ok (.iinc 2 (-1), 3) := by decide +kernel
theorem dX8_hang_170 : decode cX8_hang 170 = .ok (.goto (-120), 3) := by decide +kernel
theorem dX8_hang_173 : decode cX8_hang 173 = .ok (.return_, 1) := by decide +kernel
theorem dX9_init_0 : decode cX9_init 0 = .ok (.aload_n 0, 1) := by decide +kernel
theorem dX9_init_1 : decode cX9_init 1 = .ok (.invokespecial 3, 3) := by decide +kernel
theorem dX9_init_4 : decode cX9_init 4 = .ok (.aload_n 0, 1) := by decide +kernel
theorem dX9_init_5 : decode cX9_init 5 = .ok (.iconst 0, 1) := by decide +kernel
theorem dX9_init_6 : decode cX9_init 6 = .ok (.putfield 9, 3) := by decide +kernel
theorem dX9_init_9 : decode cX9_init 9 = .ok (.aload_n 0, 1) := by decide +kernel
theorem dX9_init_10 : decode cX9_init 10 = .ok (.iconst 4, 1) := by decide +kernel
theorem dX9_init_11 : decode cX9_init 11 = .ok (.newarray .int, 2) := by decide +kernel
theorem dX9_init_13 : decode cX9_init 13 = .ok (.putfield 15, 3) := by decide +kernel
theorem dX9_init_16 : decode cX9_init 16 = .ok (.aload_n 0, 1) := by decide +kernel
theorem dX9_init_17 : decode cX9_init 17 = .ok (.iconst 3, 1) := by decide +kernel
theorem dX9_init_18 : decode cX9_init 18 = .ok (.newarray .int, 2) := by decide +kernel
theorem dX9_init_20 : decode cX9_init 20 = .ok (.putfield 19, 3) := by decide +kernel
theorem dX9_init_23 : decode cX9_init 23 = .ok (.return_, 1) := by decide +kernel
theorem dX9_take_0 : decode cX9_take 0 = .ok (.aload_n 0, 1) := by decide +kernel
theorem dX9_take_1 : decode cX9_take 1 = .ok (.aload_n 1, 1) := by decide +kernel
theorem dX9_take_2 : decode cX9_take 2 = .ok (.getfield 22, 3) := by decide +kernel
theorem dX9_take_5 : decode cX9_take 5 = .ok (.iconst 4, 1) := by decide +kernel
theorem dX9_take_6 : decode cX9_take 6 = .ok (.invokestatic 27, 3) := by decide +kernel
theorem dX9_take_9 : decode cX9_take 9 = .ok (.putfield 9, 3) := by decide +kernel
theorem dX9_take_12 : decode cX9_take 12 = .ok (.iconst 0, 1) := by decide +kernel
theorem dX9_take_13 : decode cX9_take 13 = .ok (.istore_n 2, 1) := by decide +kernel
theorem dX9_take_14 : decode cX9_take 14 = .ok (.iload_n 2, 1) := by decide +kernel
theorem dX9_take_15 : decode cX9_take 15 = .ok (.aload_n 0, 1) := by decide +kernel
theorem dX9_take_16 : decode cX9_take 16 = .ok (.getfield 9, 3) := by decide +kernel
theorem dX9_take_19 : decode cX9_take 19 = .ok (.if_icmp .ge 21, 3) := by decide +kernel
theorem dX9_take_22 : decode cX9_take 22 = .ok (.aload_n 0, 1) := by decide +kernel
theorem dX9_take_23 : decode cX9_take 23 = .ok (.getfield 15, 3) := by decide +kernel
theorem dX9_take_26 : decode cX9_take 26 = .ok (.iload_n 2, 1) := by decide +kernel
theorem dX9_take_27 : decode cX9_take 27 = .ok (.aload_n 1, 1) := by decide +kernel
theorem dX9_take_28 : decode cX9_take 28 = .ok (.getfield 33, 3) := by decide +kernel
theorem dX9_take_31 : decode cX9_take 31 = .ok (.iload_n 2, 1) := by decide +kernel
theorem dX9_take_32 : decode cX9_take 32 = .ok (.iaload, 1) := by decide +kernel
theorem dX9_take_33 : decode cX9_take 33 = .ok (.iastore, 1) := by decide +kernel
theorem dX9_take_34 : decode cX9_take 34 = .ok (.iinc 2 1, 3) := by decide +kernel
theorem dX9_take_37 : decode cX9_take 37 = .ok (.goto (-23), 3) := by decide +kernel
theorem dX9_take_40 : decode cX9_take 40 = .ok (.iconst 0, 1) := by decide +kernel
theorem dX9_take_41 : decode cX9_take 41 = .ok (.istore_n 2, 1) := by decide +kernel
theorem dX9_take_42 : decode cX9_take 42 = .ok (.iload_n 2, 1) := by decide +kernel
theorem dX9_take_43 : decode cX9_take 43 = .ok (.aload_n 0, 1) := by decide +kernel
theorem dX9_take_44 : decode cX9_take 44 = .ok (.getfield 9, 3) := by decide +kernel
theorem dX9_take_47 : decode cX9_take 47 = .ok (.iconst 1, 1) := by decide +kernel
theorem dX9_take_48 : decode cX9_take 48 = .ok (.isub, 1) := by decide +kernel
theorem dX9_take_49 : decode cX9_take 49 = .ok (.if_icmp .ge 21, 3) := by decide +kernel
theorem dX9_take_52 : decode cX9_take 52 = .ok (.aload_n 0, 1) := by decide +kernel
theorem dX9_take_53 : decode cX9_take 53 = .ok (.getfield 19, 3) := by decide +kernel
theorem dX9_take_56 : decode cX9_take 56 = .ok (.iload_n 2, 1) := by decide +kernel
theorem dX9_take_57 : decode cX9_take 57 = .ok (.aload_n 1, 1) := by decide +kernel
theorem dX9_take_58 : decode cX9_take 58 = .ok (.getfield 36, 3) := by decide +kernel
theorem dX9_take_61 : decode cX9_take 61 = .ok (.iload_n 2, 1) := by decide +kernel
theorem dX9_take_62 : decode cX9_take 62 = .ok (.iaload, 1) := by decide +kernel
theorem dX9_take_63 : decode cX9_take 63 = .ok (.iastore, 1) := by decide +kernel
theorem dX9_take_64 : decode cX9_take 64 = .ok (.iinc 2 1, 3) := by decide +kernel
theorem dX9_take_67 : decode cX9_take 67 = .ok (.goto (-25), 3) := by decide +kernel
theorem dX9_take_70 : decode cX9_take 70 = .ok (.return_, 1) := by decide +kernel
theorem dX9_copy_0 : decode cX9_copy 0 = .ok (.aload_n 0, 1) := by decide +kernel
theorem dX9_copy_1 : decode cX9_copy 1 = .ok (.aload_n 1, 1) := by decide +kernel
theorem dX9_copy_2 : decode cX9_copy 2 = .ok (.getfield 9, 3) := by decide +kernel
theorem dX9_copy_5 : decode cX9_copy 5 = .ok (.putfield 9, 3) := by decide +kernel
theorem dX9_copy_8 : decode cX9_copy 8 = .ok (.iconst 0, 1) := by decide +kernel
theorem dX9_copy_9 : decode cX9_copy 9 = .ok (.istore_n 2, 1) := by decide +kernel
theorem dX9_copy_10 : decode cX9_copy 10 = .ok (.iload_n 2, 1) := by decide +kernel
theorem dX9_copy_11 : decode cX9_copy 11 = .ok (.iconst 4, 1) := by decide +kernel
theorem dX9_copy_12 : decode cX9_copy 12 = .ok (.if_icmp .ge 21, 3) := by decide +kernel
theorem dX9_copy_15 : decode cX9_copy 15 = .ok (.aload_n 0, 1) := by decide +kernel
theorem dX9_copy_16 : decode cX9_copy 16 = .ok (.getfield 15, 3) := by decide +kernel
theorem dX9_copy_19 : decode cX9_copy 19 = .ok (.iload_n 2, 1) := by decide +kernel
theorem dX9_copy_20 : decode cX9_copy 20 = .ok (.aload_n 1, 1) := by decide +kernel
theorem dX9_copy_21 : decode cX9_copy 21 = .ok (.getfield 15, 3) := by decide +kernel
theorem dX9_copy_24 : decode cX9_copy 24 = .ok (.iload_n 2, 1) := by decide +kernel
theorem dX9_copy_25 : decode cX9_copy 25 = .ok (.iaload, 1) := by decide +kernel
theorem dX9_copy_26 : decode cX9_copy 26 = .ok (.iastore, 1) := by decide +kernel
theorem dX9_copy_27 : decode cX9_copy 27 = .ok (.iinc 2 1, 3) := by decide +kernel
theorem dX9_copy_30 : decode cX9_copy 30 = .ok (.goto (-20), 3) := by decide +kernel
theorem dX9_copy_33 : decode cX9_copy 33 = .ok (.iconst 0, 1) := by decide +kernel
theorem dX9_copy_34 : decode cX9_copy 34 = .ok (.istore_n 2, 1) := by decide +kernel
theorem dX9_copy_35 : decode cX9_copy 35 = .ok (.iload_n 2, 1) := by decide +kernel
theorem dX9_copy_36 : decode cX9_copy 36 = .ok (.iconst 3, 1) := by decide +kernel
theorem dX9_copy_37 : decode cX9_copy 37 = .ok (.if_icmp .ge 21, 3) := by decide +kernel
theorem dX9_copy_40 : decode cX9_copy 40 = .ok (.aload_n 0, 1) := by decide +kernel
theorem dX9_copy_41 : decode cX9_copy 41 = .ok (.getfield 19, 3) := by decide +kernel
theorem dX9_copy_44 : decode cX9_copy 44 = .ok (.iload_n 2, 1) := by decide +kernel
theorem dX9_copy_45 : decode cX9_copy 45 = .ok (.aload_n 1, 1) := by decide +kernel
theorem dX9_copy_46 : decode cX9_copy 46 = .ok (.getfield 19, 3) := by decide +kernel
theorem dX9_copy_49 : decode cX9_copy 49 = .ok (.iload_n 2, 1) := by decide +kernel
theorem dX9_copy_50 : decode cX9_copy 50 = .ok (.iaload, 1) := by decide +kernel
theorem dX9_copy_51 : decode cX9_copy 51 = .ok (.iastore, 1) := by decide +kernel
theorem dX9_copy_52 : decode cX9_copy 52 = .ok (.iinc 2 1, 3) := by decide +kernel
theorem dX9_copy_55 : decode cX9_copy 55 = .ok (.goto (-20), 3) := by decide +kernel
theorem dX9_copy_58 : decode cX9_copy 58 = .ok (.return_, 1) := by decide +kernel
theorem dX9_areRight_0 : decode cX9_areRight 0 = .ok (.iconst 0, 1) := by decide +kernel
theorem dX9_areRight_1 : decode cX9_areRight 1 = .ok (.istore_n 1, 1) := by decide +kernel
theorem dX9_areRight_2 : decode cX9_areRight 2 = .ok (.iload_n 1, 1) := by decide +kernel
theorem dX9_areRight_3 : decode cX9_areRight 3 = .ok (.aload_n 0, 1) := by decide +kernel
theorem dX9_areRight_4 : decode cX9_areRight 4 = .ok (.getfield 9, 3) := by decide +kernel
theorem dX9_areRight_7 : decode cX9_areRight 7 = .ok (.if_icmp .ge 27, 3) := by decide +kernel
theorem dX9_areRight_10 : decode cX9_areRight 10 = .ok (.aload_n 0, 1) := by decide +kernel
theorem dX9_areRight_11 : decode cX9_areRight 11 = .ok (.getfield 15, 3) := by decide +kernel
theorem dX9_areRight_14 : decode cX9_areRight 14 = .ok (.iload_n 1, 1) := by decide +kernel
theorem dX9_areRight_15 : decode cX9_areRight 15 = .ok (.iaload, 1) := by decide +kernel
theorem dX9_areRight_16 : decode cX9_areRight 16 = .ok (.bipush (-6), 2) := by decide +kernel
theorem dX9_areRight_18 : decode cX9_areRight 18 = .ok (.bipush 6, 2) := by decide +kernel
theorem dX9_areRight_20 : decode cX9_areRight 20 = .ok (.invokestatic 39, 3) := by decide +kernel
theorem dX9_areRight_23 : decode cX9_areRight 23 = .ok (.ifCond .ne 5, 3) := by decide +kernel
theorem dX9_areRight_26 : decode cX9_areRight 26 = .ok (.iconst 0, 1) := by decide +kernel
theorem dX9_areRight_27 : decode cX9_areRight 27 = .ok (.ireturn, 1) := by decide +kernel
theorem dX9_areRight_28 : decode cX9_areRight 28 = .ok (.iinc 1 1, 3) := by decide +kernel
theorem dX9_areRight_31 : decode cX9_areRight 31 = .ok (.goto (-29), 3) := by decide +kernel
theorem dX9_areRight_34 : decode cX9_areRight 34 = .ok (.iconst 0, 1) := by decide +kernel
theorem dX9_areRight_35 : decode cX9_areRight 35 = .ok (.istore_n 1, 1) := by decide +kernel
theorem dX9_areRight_36 : decode cX9_areRight 36 = .ok (.iload_n 1, 1) := by decide +kernel
theorem dX9_areRight_37 : decode cX9_areRight 37 = .ok (.aload_n 0, 1) := by decide +kernel
theorem dX9_areRight_38 : decode cX9_areRight 38 = .ok (.getfield 9, 3) := by decide +kernel
theorem dX9_areRight_41 : decode cX9_areRight 41 = .ok (.iconst 1, 1) := by decide +kernel
theorem dX9_areRight_42 : decode cX9_areRight 42 = .ok (.isub, 1) := by decide +kernel
theorem dX9_areRight_43 : decode cX9_areRight 43 = .ok (.if_icmp .ge 43, 3) := by decide +kernel
theorem dX9_areRight_46 : decode cX9_areRight 46 = .ok (.aload_n 0, 1) := by decide +kernel
theorem dX9_areRight_47 : decode cX9_areRight 47 = .ok (.getfield 19, 3) := by decide +kernel
theorem dX9_areRight_50 : decode cX9_areRight 50 = .ok (.iload_n 1, 1) := by decide +kernel
theorem dX9_areRight_51 : decode cX9_areRight 51 = .ok (.iaload, 1) := by decide +kernel
theorem dX9_areRight_52 : decode cX9_areRight 52 = .ok (.aload_n 0, 1) := by decide +kernel
theorem dX9_areRight_53 : decode cX9_areRight 53 = .ok (.getfield 15, 3) := by decide +kernel
theorem dX9_areRight_56 : decode cX9_areRight 56 = .ok (.iload_n 1, 1) := by decide +kernel
theorem dX9_areRight_57 : decode cX9_areRight 57 = .ok (.iaload, 1) := by decide +kernel
theorem dX9_areRight_58 : decode cX9_areRight 58 = .ok (.if_icmp .le 20, 3) := by decide +kernel
theorem dX9_areRight_61 : decode cX9_areRight 61 = .ok (.aload_n 0, 1) := by decide +kernel
theorem dX9_areRight_62 : decode cX9_areRight 62 = .ok (.getfield 19, 3) := by decide +kernel
theorem dX9_areRight_65 : decode cX9_areRight 65 = .ok (.iload_n 1, 1) := by decide +kernel
theorem dX9_areRight_66 : decode cX9_areRight 66 = .ok (.iaload, 1) := by decide +kernel
theorem dX9_areRight_67 : decode cX9_areRight 67 = .ok (.aload_n 0, 1) := by decide +kernel
theorem dX9_areRight_68 : decode cX9_areRight 68 = .ok (.getfield 15, 3) := by decide +kernel
theorem dX9_areRight_71 : decode cX9_areRight 71 = .ok (.iload_n 1, 1) := by decide +kernel
theorem dX9_areRight_72 : decode cX9_areRight 72 = .ok (.iconst 1, 1) := by decide +kernel
theorem dX9_areRight_73 : decode cX9_areRight 73 = .ok (.iadd, 1) := by decide +kernel
theorem dX9_areRight_74 : decode cX9_areRight 74 = .ok (.iaload, 1) := by decide +kernel
theorem dX9_areRight_75 : decode cX9_areRight 75 = .ok (.if_icmp .lt 5, 3) := by decide +kernel
theorem dX9_areRight_78 : decode cX9_areRight 78 = .ok (.iconst 0, 1) := by decide +kernel
theorem dX9_areRight_79 : decode cX9_areRight 79 = .ok (.ireturn, 1) := by decide +kernel
theorem dX9_areRight_80 : decode cX9_areRight 80 = .ok (.iinc 1 1, 3) := by decide +kernel
theorem dX9_areRight_83 : decode cX9_areRight 83 = .ok (.goto (-47), 3) := by decide +kernel
theorem dX9_areRight_86 : decode cX9_areRight 86 = .ok (.iconst 1, 1) := by decide +kernel
theorem dX9_areRight_87 : decode cX9_areRight 87 = .ok (.ireturn, 1) := by decide +kernel
theorem dX9_turnAbout_0 : decode cX9_turnAbout 0 = .ok (.aload_n 0, 1) := by decide +kernel
theorem dX9_turnAbout_1 : decode cX9_turnAbout 1 = .ok (.getfield 15, 3) := by decide +kernel
theorem dX9_turnAbout_4 : decode cX9_turnAbout 4 = .ok (.aload_n 0, 1) := by decide +kernel
theorem dX9_turnAbout_5 : decode cX9_turnAbout 5 = .ok (.getfield 9, 3) := by decide +kernel
theorem dX9_turnAbout_8 : decode cX9_turnAbout 8 = .ok (.invokestatic 43, 3) := by decide +kernel
theorem dX9_turnAbout_11 : decode cX9_turnAbout 11 = .ok (.aload_n 0, 1) := by decide +kernel
theorem dX9_turnAbout_12 : decode cX9_turnAbout 12 = .ok (.getfield 19, 3) := by decide +kernel
theorem dX9_turnAbout_15 : decode cX9_turnAbout 15 = .ok (.aload_n 0, 1) := by decide +kernel
theorem dX9_turnAbout_16 : decode cX9_turnAbout 16 = .ok (.getfield 9, 3) := by decide +kernel
theorem dX9_turnAbout_19 : decode cX9_turnAbout 19 = .ok (.iconst 1, 1) := by decide +kernel
theorem dX9_turnAbout_20 : decode cX9_turnAbout 20 = .ok (.isub, 1) := by decide +kernel
theorem dX9_turnAbout_21 : decode cX9_turnAbout 21 = .ok (.invokestatic 43, 3) := by decide +kernel
theorem dX9_turnAbout_24 : decode cX9_turnAbout 24 = .ok (.return_, 1) := by decide +kernel
theorem dX9_negateBackwards_0 : decode cX9_negateBackwards 0 = .ok (.iconst 0, 1) := by decide +kernel
theorem dX9_negateBackwards_1 : decode cX9_negateBackwards 1 = .ok (.istore_n 2, 1) := by decide +kernel
theorem dX9_negateBackwards_2 : decode cX9_negateBackwards 2 = .ok (.iload_n 1, 1) := by decide +kernel
theorem dX9_negateBackwards_3 : decode cX9_negateBackwards 3 = .ok (.iconst 1, 1) := by decide +kernel
theorem dX9_negateBackwards_4 : decode cX9_negateBackwards 4 = .ok (.isub, 1) := by decide +kernel
theorem dX9_negateBackwards_5 : decode cX9_negateBackwards 5 = .ok (.istore_n 3, 1) := by decide +kernel
theorem dX9_negateBackwards_6 : decode cX9_negateBackwards 6 = .ok (.iload_n 2, 1) := by decide +kernel
theorem dX9_negateBackwards_7 : decode cX9_negateBackwards 7 = .ok (.iload_n 3, 1) := by decide +kernel
theorem dX9_negateBackwards_8 : decode cX9_negateBackwards 8 = .ok (.if_icmp .gt 30, 3) := by decide +kernel
theorem dX9_negateBackwards_11 : decode cX9_negateBackwards 11 = .ok (.aload_n 0, 1) := by decide +kernel
theorem dX9_negateBackwards_12 : decode cX9_negateBackwards 12 = .ok (.iload_n 2, 1) := by decide +kernel
theorem dX9_negateBackwards_13 : decode cX9_negateBackwards 13 = .ok (.iaload, 1) := by decide +kernel
theorem dX9_negateBackwards_14 : decode cX9_negateBackwards 14 = .ok (.istore 4, 2) := by decide +kernel
theorem dX9_negateBackwards_16 : decode cX9_negateBackwards 16 = .ok (.aload_n 0, 1) := by decide +kernel
theorem dX9_negateBackwards_17 : decode cX9_negateBackwards 17 = .ok (.iload_n 2, 1) := by decide +kernel
theorem dX9_negateBackwards_18 : decode cX9_negateBackwards 18 = .ok (.aload_n 0, 1) := by decide +kernel
theorem dX9_negateBackwards_19 : decode cX9_negateBackwards 19 = .ok (.iload_n 3, 1) := by decide +kernel
theorem dX9_negateBackwards_20 : decode cX9_negateBackwards 20 = .ok (.iaload, 1) := by decide +kernel
theorem dX9_negateBackwards_21 : decode cX9_negateBackwards 21 = .ok (.ineg, 1) := by decide +kernel
theorem dX9_negateBackwards_22 : decode cX9_negateBackwards 22 = .ok (.iastore, 1) := by decide +kernel
theorem dX9_negateBackwards_23 : decode cX9_negateBackwards 23 = .ok (.aload_n 0, 1) := by decide +kernel
theorem dX9_negateBackwards_24 : decode cX9_negateBackwards 24 = .ok (.iload_n 3, 1) := by decide +kernel
theorem dX9_negateBackwards_25 : decode cX9_negateBackwards 25 = .ok (.iload 4, 2) := by decide +kernel
theorem dX9_negateBackwards_27 : decode cX9_negateBackwards 27 = .ok (.ineg, 1) := by decide +kernel
theorem dX9_negateBackwards_28 : decode cX9_negateBackwards 28 = .ok (.iastore, 1) := by decide +kernel
theorem dX9_negateBackwards_29 : decode cX9_negateBackwards 29 = .ok (.iinc 2 1, 3) := by decide +kernel
theorem dX9_negateBackwards_32 : decode cX9_negateBackwards 32 = .ok (.iinc 3 (-1), 3) := by decide +kernel
theorem dX9_negateBackwards_35 : decode cX9_negateBackwards 35 = .ok (.goto (-29), 3) := by decide +kernel
theorem dX9_negateBackwards_38 : decode cX9_negateBackwards 38 = .ok (.return_, 1) := by decide +kernel
theorem dX9_moveBy_0 : decode cX9_moveBy 0 = .ok (.iconst 0, 1) := by decide +kernel
theorem dX9_moveBy_1 : decode cX9_moveBy 1 = .ok (.istore_n 2, 1) := by decide +kernel
theorem dX9_moveBy_2 : decode cX9_moveBy 2 = .ok (.iload_n 2, 1) := by decide +kernel
theorem dX9_moveBy_3 : decode cX9_moveBy 3 = .ok (.aload_n 0, 1) := by decide +kernel
theorem dX9_moveBy_4 : decode cX9_moveBy 4 = .ok (.getfield 9, 3) := by decide +kernel
theorem dX9_moveBy_7 : decode cX9_moveBy 7 = .ok (.if_icmp .ge 19, 3) := by decide +kernel
theorem dX9_moveBy_10 : decode cX9_moveBy 10 = .ok (.aload_n 0, 1) := by decide +kernel
theorem dX9_moveBy_11 : decode cX9_moveBy 11 = .ok (.getfield 15, 3) := by decide +kernel
theorem dX9_moveBy_14 : decode cX9_moveBy 14 = .ok (.iload_n 2, 1) := by decide +kernel
theorem dX9_moveBy_15 : decode cX9_moveBy 15 = .ok (.dup2, 1) := by decide +kernel
theorem dX9_moveBy_16 : decode cX9_moveBy 16 = .ok (.iaload, 1) := by decide +kernel
theorem dX9_moveBy_17 : decode cX9_moveBy 17 = .ok (.iload_n 1, 1) := by decide +kernel
theorem dX9_moveBy_18 : decode cX9_moveBy 18 = .ok (.iadd, 1) := by decide +kernel
theorem dX9_moveBy_19 : decode cX9_moveBy 19 = .ok (.iastore, 1) := by decide +kernel
theorem dX9_moveBy_20 : decode cX9_moveBy 20 = .ok (.iinc 2 1, 3) := by decide +kernel
theorem dX9_moveBy_23 : decode cX9_moveBy 23 = .ok (.goto (-21), 3) := by decide +kernel
theorem dX9_moveBy_26 : decode cX9_moveBy 26 = .ok (.iconst 0, 1) := by decide +kernel
theorem dX9_moveBy_27 : decode cX9_moveBy 27 = .ok (.istore_n 2, 1) := by decide +kernel
theorem dX9_moveBy_28 : decode cX9_moveBy 28 = .ok (.iload_n 2, 1) := by decide +kernel
theorem dX9_moveBy_29 : decode cX9_moveBy 29 = .ok (.aload_n 0, 1) := by decide +kernel
theorem dX9_moveBy_30 : decode cX9_moveBy 30 = .ok (.getfield 9, 3) := by decide +kernel
theorem dX9_moveBy_33 : decode cX9_moveBy 33 = .ok (.iconst 1, 1) := by decide +kernel
theorem dX9_moveBy_34 : decode cX9_moveBy 34 = .ok (.isub, 1) := by decide +kernel
theorem dX9_moveBy_35 : decode cX9_moveBy 35 = .ok (.if_icmp .ge 19, 3) := by decide +kernel
theorem dX9_moveBy_38 : decode cX9_moveBy 38 = .ok (.aload_n 0, 1) := by decide +kernel
theorem dX9_moveBy_39 : decode cX9_moveBy 39 = .ok (.getfield 19, 3) := by decide +kernel
theorem dX9_moveBy_42 : decode cX9_moveBy 42 = .ok (.iload_n 2, 1) := by decide +kernel
theorem dX9_moveBy_43 : decode cX9_moveBy 43 = .ok (.dup2, 1) := by decide +kernel
theorem dX9_moveBy_44 : decode cX9_moveBy 44 = .ok (.iaload, 1) := by decide +kernel
theorem dX9_moveBy_45 : decode cX9_moveBy 45 = .ok (.iload_n 1, 1) := by decide +kernel
theorem dX9_moveBy_46 : decode cX9_moveBy 46 = .ok (.iadd, 1) := by decide +kernel
theorem dX9_moveBy_47 : decode cX9_moveBy 47 = .ok (.iastore, 1) := by decide +kernel
theorem dX9_moveBy_48 : decode cX9_moveBy 48 = .ok (.iinc 2 1, 3) := by decide +kernel
theorem dX9_moveBy_51 : decode cX9_moveBy 51 = .ok (.goto (-23), 3) := by decide +kernel
theorem dX9_moveBy_54 : decode cX9_moveBy 54 = .ok (.return_, 1) := by decide +kernel
theorem dX9_weigh_0 : decode cX9_weigh 0 = .ok (.lconst 1, 1) := by decide +kernel
theorem dX9_weigh_1 : decode cX9_weigh 1 = .ok (.lstore_n 3, 1) := by decide +kernel
theorem dX9_weigh_2 : decode cX9_weigh 2 = .ok (.iconst 0, 1) := by decide +kernel
theorem dX9_weigh_3 : decode cX9_weigh 3 = .ok (.istore 5, 2) := by decide +kernel
theorem dX9_weigh_5 : decode cX9_weigh 5 = .ok (.iload 5, 2) := by decide +kernel
theorem dX9_weigh_7 : decode cX9_weigh 7 = .ok (.aload_n 0, 1) := by decide +kernel
theorem dX9_weigh_8 : decode cX9_weigh 8 = .ok (.getfield 9, 3) := by decide +kernel
theorem dX9_weigh_11 : decode cX9_weigh 11 = .ok (.iconst 1, 1) := by decide +kernel
theorem dX9_weigh_12 : decode cX9_weigh 12 = .ok (.isub, 1) := by decide +kernel
theorem dX9_weigh_13 : decode cX9_weigh 13 = .ok (.if_icmp .ge 27, 3) := by decide +kernel
theorem dX9_weigh_16 : decode cX9_weigh 16 = .ok (.lload_n 3, 1) := by decide +kernel
theorem dX9_weigh_17 : decode cX9_weigh 17 = .ok (.aload_n 0, 1) := by decide +kernel
theorem dX9_weigh_18 : decode cX9_weigh 18 = .ok (.getfield 15, 3) := by decide +kernel
theorem dX9_weigh_21 : decode cX9_weigh 21 = .ok (.iload_n 1, 1) := by decide +kernel
theorem dX9_weigh_22 : decode cX9_weigh 22 = .ok (.iaload, 1) := by decide +kernel
theorem dX9_weigh_23 : decode cX9_weigh 23 = .ok (.aload_n 0, 1) := by decide +kernel
theorem dX9_weigh_24 : decode cX9_weigh 24 = .ok (.getfield 19, 3) := by decide +kernel
theorem dX9_weigh_27 : decode cX9_weigh 27 = .ok (.iload 5, 2) := by decide +kernel
theorem dX9_weigh_29 : decode cX9_weigh 29 = .ok (.iaload, 1) := by decide +kernel
theorem dX9_weigh_30 : decode cX9_weigh 30 = .ok (.isub, 1) := by decide +kernel
theorem dX9_weigh_31 : decode cX9_weigh 31 = .ok (.i2l, 1) := by decide +kernel
theorem dX9_weigh_32 : decode cX9_weigh 32 = .ok (.lmul, 1) := by decide +kernel
theorem dX9_weigh_33 : decode cX9_weigh 33 = .ok (.lstore_n 3, 1) := by decide +kernel
theorem dX9_weigh_34 : decode cX9_weigh 34 = .ok (.iinc 5 1, 3) := by decide +kernel
theorem dX9_weigh_37 : decode cX9_weigh 37 = .ok (.goto (-32), 3) := by decide +kernel
theorem dX9_weigh_40 : decode cX9_weigh 40 = .ok (.lconst 1, 1) := by decide +kernel
theorem dX9_weigh_41 : decode cX9_weigh 41 = .ok (.lstore 5, 2) := by decide +kernel
theorem dX9_weigh_43 : decode cX9_weigh 43 = .ok (.iconst 0, 1) := by decide +kernel
theorem dX9_weigh_44 : decode cX9_weigh 44 = .ok (.istore 7, 2) := by decide +kernel
theorem dX9_weigh_46 : decode cX9_weigh 46 = .ok (.iload 7, 2) := by decide +kernel
theorem dX9_weigh_48 : decode cX9_weigh 48 = .ok (.aload_n 0, 1) := by decide +kernel
theorem dX9_weigh_49 : decode cX9_weigh 49 = .ok (.getfield 9, 3) := by decide +kernel
theorem dX9_weigh_52 : decode cX9_weigh 52 = .ok (.if_icmp .ge 35, 3) := by decide +kernel
theorem dX9_weigh_55 : decode cX9_weigh 55 = .ok (.iload 7, 2) := by decide +kernel
theorem dX9_weigh_57 : decode cX9_weigh 57 = .ok (.iload_n 1, 1) := by decide +kernel
theorem dX9_weigh_58 : decode cX9_weigh 58 = .ok (.if_icmp .eq 23, 3) := by decide +kernel
theorem dX9_weigh_61 : decode cX9_weigh 61 = .ok (.lload 5, 2) := by decide +kernel
theorem dX9_weigh_63 : decode cX9_weigh 63 = .ok (.aload_n 0, 1) := by decide +kernel
theorem dX9_weigh_64 : decode cX9_weigh 64 = .ok (.getfield 15, 3) := by decide +kernel
theorem dX9_weigh_67 : decode cX9_weigh 67 = .ok (.iload_n 1, 1) := by decide +kernel
theorem dX9_weigh_68 : decode cX9_weigh 68 = .ok (.iaload, 1) := by decide +kernel
theorem dX9_weigh_69 : decode cX9_weigh 69 = .ok (.aload_n 0, 1) := by decide +kernel
theorem dX9_weigh_70 : decode cX9_weigh 70 = .ok (.getfield 15, 3) := by decide +kernel
theorem dX9_weigh_73 : decode cX9_weigh 73 = .ok (.iload 7, 2) := by decide +kernel
theorem dX9_weigh_75 : decode cX9_weigh 75 = .ok (.iaload, 1) := by decide +kernel
theorem dX9_weigh_76 : decode cX9_weigh 76 = .ok (.isub, 1) := by decide +kernel
theorem dX9_weigh_77 : decode cX9_weigh 77 = .ok (.i2l, 1) := by decide +kernel
theorem dX9_weigh_78 : decode cX9_weigh 78 = .ok (.lmul, 1) := by decide +kernel
theorem dX9_weigh_79 : decode cX9_weigh 79 = .ok (.lstore 5, 2) := by decide +kernel
theorem dX9_weigh_81 : decode cX9_weigh 81 = .ok (.iinc 7 1, 3) := by decide +kernel
theorem dX9_weigh_84 : decode cX9_weigh 84 = .ok (.goto (-38), 3) := by decide +kernel
theorem dX9_weigh_87 : decode cX9_weigh 87 = .ok (.aload_n 2, 1) := by decide +kernel
theorem dX9_weigh_88 : decode cX9_weigh 88 = .ok (.lload_n 3, 1) := by decide +kernel
theorem dX9_weigh_89 : decode cX9_weigh 89 = .ok (.lload 5, 2) := by decide +kernel
theorem dX9_weigh_91 : decode cX9_weigh 91 = .ok (.invokevirtual 47, 3) := by decide +kernel
theorem dX9_weigh_94 : decode cX9_weigh 94 = .ok (.return_, 1) := by decide +kernel
theorem dX9_weighPowers_0 : decode cX9_weighPowers 0 = .ok (.lconst 0, 1) := by decide +kernel
theorem dX9_weighPowers_1 : decode cX9_weighPowers 1 = .ok (.lstore_n 3, 1) := by decide +kernel
theorem dX9_weighPowers_2 : decode cX9_weighPowers 2 = .ok (.lconst 1, 1) := by decide +kernel
theorem dX9_weighPowers_3 : decode cX9_weighPowers 3 = .ok (.lstore 5, 2) := by decide +kernel
theorem dX9_weighPowers_5 : decode cX9_weighPowers 5 = .ok (.iconst 0, 1) := by decide +kernel
theorem dX9_weighPowers_6 : decode cX9_weighPowers 6 = .ok (.istore 7, 2) := by decide +kernel
theorem dX9_weighPowers_8 : decode cX9_weighPowers 8 = .ok (.iload 7, 2) := by decide +kernel
theorem dX9_weighPowers_10 : decode cX9_weighPowers 10 = .ok (.aload_n 0, 1) := by decide +kernel
theorem dX9_weighPowers_11 : decode cX9_weighPowers 11 = .ok (.getfield 9, 3) := by decide +kernel
theorem dX9_weighPowers_14 : decode cX9_weighPowers 14 = .ok (.if_icmp .ge 62, 3) := by decide +kernel
theorem dX9_weighPowers_17 : decode cX9_weighPowers 17 = .ok (.aload_n 0, 1) := by decide +kernel
theorem dX9_weighPowers_18 : decode cX9_weighPowers 18 = .ok (.iload 7, 2) := by decide +kernel
theorem dX9_weighPowers_20 : decode cX9_weighPowers 20 = .ok (.aload_n 2, 1) := by decide +kernel
theorem dX9_weighPowers_21 : decode cX9_weighPowers 21 = .ok (.invokevirtual 53, 3) := by decide +kernel
theorem dX9_weighPowers_24 : decode cX9_weighPowers 24 = .ok (.iconst 0, 1) := by decide +kernel
theorem dX9_weighPowers_25 : decode cX9_weighPowers 25 = .ok (.istore 8, 2) := by decide +kernel
theorem dX9_weighPowers_27 : decode cX9_weighPowers 27 = .ok (.iload 8, 2) := by decide +kernel
theorem dX9_weighPowers_29 : decode cX9_weighPowers 29 = .ok (.iload_n 1, 1) := by decide +kernel
theorem dX9_weighPowers_30 : decode cX9_weighPowers 30 = .ok (.if_icmp .ge 22, 3) := by decide +kernel
theorem dX9_weighPowers_33 : decode cX9_weighPowers 33 = .ok (.aload_n 2, 1) := by decide +kernel
theorem dX9_weighPowers_34 : decode cX9_weighPowers 34 = .ok (.aload_n 0, 1) := by decide +kernel
theorem dX9_weighPowers_35 : decode cX9_weighPowers 35 = .ok (.getfield 15, 3) := by decide +kernel
theorem dX9_weighPowers_38 : decode cX9_weighPowers 38 = .ok (.iload 7, 2) := by decide +kernel
theorem dX9_weighPowers_40 : decode cX9_weighPowers 40 = .ok (.iaload, 1) := by decide +kernel
theorem dX9_weighPowers_41 : decode cX9_weighPowers 41 = .ok (.i2l, 1) := by decide +kernel
theorem dX9_weighPowers_42 : decode cX9_weighPowers 42 = .ok (.lconst 1, 1) := by decide +kernel
theorem dX9_weighPowers_43 : decode cX9_weighPowers 43 = .ok (.invokevirtual 57, 3) := by decide +kernel
theorem dX9_weighPowers_46 : decode cX9_weighPowers 46 = .ok (.iinc 8 1, 3) := by decide +kernel
theorem dX9_weighPowers_49 : decode cX9_weighPowers 49 = .ok (.goto (-22), 3) := by decide +kernel
theorem dX9_weighPowers_52 : decode cX9_weighPowers 52 = .ok (.aload_n 2, 1) := by decide +kernel
theorem dX9_weighPowers_53 : decode cX9_weighPowers 53 = .ok (.lload_n 3, 1) := by decide +kernel
theorem dX9_weighPowers_54 : decode cX9_weighPowers 54 = .ok (.lload 5, 2) := by decide +kernel
theorem dX9_weighPowers_56 : decode cX9_weighPowers 56 = .ok (.invokevirtual 60, 3) := by decide +kernel
theorem dX9_weighPowers_59 : decode cX9_weighPowers 59 = .ok (.aload_n 2, 1) := by decide +kernel
theorem dX9_weighPowers_60 : decode cX9_weighPowers 60 = .ok (.getfield 63, 3) := by decide +kernel
theorem dX9_weighPowers_63 : decode cX9_weighPowers 63 = .ok (.lstore_n 3, 1) := by decide +kernel
theorem dX9_weighPowers_64 : decode cX9_weighPowers 64 = .ok (.aload_n 2, 1) := by decide +kernel
theorem dX9_weighPowers_65 : decode cX9_weighPowers 65 = .ok (.getfield 67, 3) := by decide +kernel
theorem dX9_weighPowers_68 : decode cX9_weighPowers 68 = .ok (.lstore 5, 2) := by decide +kernel
theorem dX9_weighPowers_70 : decode cX9_weighPowers 70 = .ok (.iinc 7 1, 3) := by decide +kernel
theorem dX9_weighPowers_73 : decode cX9_weighPowers 73 = .ok (.goto (-65), 3) := by decide +kernel
theorem dX9_weighPowers_76 : decode cX9_weighPowers 76 = .ok (.return_, 1) := by decide +kernel
theorem dX9_distances_0 : decode cX9_distances 0 = .ok (.lconst 1, 1) := by decide +kernel
theorem dX9_distances_1 : decode cX9_distances 1 = .ok (.lstore_n 1, 1) := by decide +kernel
theorem dX9_distances_2 : decode cX9_distances 2 = .ok (.iconst 0, 1) := by decide +kernel
theorem dX9_distances_3 : decode cX9_distances 3 = .ok (.istore_n 3, 1) := by decide +kernel
theorem dX9_distances_4 : decode cX9_distances 4 = .ok (.iload_n 3, 1) := by decide +kernel
theorem dX9_distances_5 : decode cX9_distances 5 = .ok (.aload_n 0, 1) := by decide +kernel
theorem dX9_distances_6 : decode cX9_distances 6 = .ok (.getfield 9, 3) := by decide +kernel
theorem dX9_distances_9 : decode cX9_distances 9 = .ok (.if_icmp .ge 57, 3) := by decide +kernel
theorem dX9_distances_12 : decode cX9_distances 12 = .ok (.iconst 0, 1) := by decide +kernel
theorem dX9_distances_13 : decode cX9_distances 13 = .ok (.istore 4, 2) := by decide +kernel
theorem dX9_distances_15 : decode cX9_distances 15 = .ok (.iload 4, 2) := by decide +kernel
theorem dX9_distances_17 : decode cX9_distances 17 = .ok (.iload_n 3, 1) := by decide +kernel
theorem dX9_distances_18 : decode cX9_distances 18 = .ok (.if_icmp .ge 42, 3) := by decide +kernel
theorem dX9_distances_21 : decode cX9_distances 21 = .ok (.lload_n 1, 1) := by decide +kernel
theorem dX9_distances_22 : decode cX9_distances 22 = .ok (.aload_n 0, 1) := by decide +kernel
theorem dX9_distances_23 : decode cX9_distances 23 = .ok (.getfield 15, 3) := by decide +kernel
theorem dX9_distances_26 : decode cX9_distances 26 = .ok (.iload_n 3, 1) := by decide +kernel
theorem dX9_distances_27 : decode cX9_distances 27 = .ok (.iaload, 1) := by decide +kernel
theorem dX9_distances_28 : decode cX9_distances 28 = .ok (.aload_n 0, 1) := by decide +kernel
theorem dX9_distances_29 : decode cX9_distances 29 = .ok (.getfield 15, 3) := by decide +kernel
theorem dX9_distances_32 : decode cX9_distances 32 = .ok (.iload 4, 2) := by decide +kernel
theorem dX9_distances_34 : decode cX9_distances 34 = .ok (.iaload, 1) := by decide +kernel
theorem dX9_distances_35 : decode cX9_distances 35 = .ok (.isub, 1) := by decide +kernel
theorem dX9_distances_36 : decode cX9_distances 36 = .ok (.aload_n 0, 1) := by decide +kernel
theorem dX9_distances_37 : decode cX9_distances 37 = .ok (.getfield 15, 3) := by decide +kernel
theorem dX9_distances_40 : decode cX9_distances 40 = .ok (.iload_n 3, 1) := by decide +kernel
theorem dX9_distances_41 : decode cX9_distances 41 = .ok (.iaload, 1) := by decide +kernel
theorem dX9_distances_42 : decode cX9_distances 42 = .ok (.aload_n 0, 1) := by decide +kernel
theorem dX9_distances_43 : decode cX9_distances 43 = .ok (.getfield 15, 3) := by decide +kernel
theorem dX9_distances_46 : decode cX9_distances 46 = .ok (.iload 4, 2) := by decide +kernel
theorem dX9_distances_48 : decode cX9_distances 48 = .ok (.iaload, 1) := by decide +kernel
theorem dX9_distances_49 : decode cX9_distances 49 = .ok (.isub, 1) := by decide +kernel
theorem dX9_distances_50 : decode cX9_distances 50 = .ok (.imul, 1) := by decide +kernel
theorem dX9_distances_51 : decode cX9_distances 51 = .ok (.i2l, 1) := by decide +kernel
theorem dX9_distances_52 : decode cX9_distances 52 = .ok (.lmul, 1) := by decide +kernel
theorem dX9_distances_53 : decode cX9_distances 53 = .ok (.lstore_n 1, 1) := by decide +kernel
theorem dX9_distances_54 : decode cX9_distances 54 = .ok (.iinc 4 1, 3) := by decide +kernel
theorem dX9_distances_57 : decode cX9_distances 57 = .ok (.goto (-42), 3) := by decide +kernel
theorem dX9_distances_60 : decode cX9_distances 60 = .ok (.iinc 3 1, 3) := by decide +kernel
theorem dX9_distances_63 : decode cX9_distances 63 = .ok (.goto (-59), 3) := by decide +kernel
theorem dX9_distances_66 : decode cX9_distances 66 = .ok (.lload_n 1, 1) := by decide +kernel
theorem dX9_distances_67 : decode cX9_distances 67 = .ok (.lreturn, 1) := by decide +kernel
theorem dX9_hear_0 : decode cX9_hear 0 = .ok (.aload_n 1, 1) := by decide +kernel
theorem dX9_hear_1 : decode cX9_hear 1 = .ok (.getfield 70, 3) := by decide +kernel
theorem dX9_hear_4 : decode cX9_hear 4 = .ok (.iconst 4, 1) := by decide +kernel
theorem dX9_hear_5 : decode cX9_hear 5 = .ok (.if_icmp .le 5, 3) := by decide +kernel
theorem dX9_hear_8 : decode cX9_hear 8 = .ok (.iconst 0, 1) := by decide +kernel
theorem dX9_hear_9 : decode cX9_hear 9 = .ok (.ireturn, 1) := by decide +kernel
theorem dX9_hear_10 : decode cX9_hear 10 = .ok (.aload_n 0, 1) := by decide +kernel
theorem dX9_hear_11 : decode cX9_hear 11 = .ok (.aload_n 1, 1) := by decide +kernel
theorem dX9_hear_12 : decode cX9_hear 12 = .ok (.getfield 70, 3) := by decide +kernel
theorem dX9_hear_15 : decode cX9_hear 15 = .ok (.putfield 9, 3) := by decide +kernel
theorem dX9_hear_18 : decode cX9_hear 18 = .ok (.aload_n 1, 1) := by decide +kernel
theorem dX9_hear_19 : decode cX9_hear 19 = .ok (.iconst 0, 1) := by decide +kernel
theorem dX9_hear_20 : decode cX9_hear 20 = .ok (.aload_n 0, 1) := by decide +kernel
theorem dX9_hear_21 : decode cX9_hear 21 = .ok (.getfield 9, 3) := by decide +kernel
theorem dX9_hear_24 : decode cX9_hear 24 = .ok (.aload_n 0, 1) := by decide +kernel
theorem dX9_hear_25 : decode cX9_hear 25 = .ok (.getfield 15, 3) := by decide +kernel
theorem dX9_hear_28 : decode cX9_hear 28 = .ok (.invokestatic 75, 3) := by decide +kernel
theorem dX9_hear_31 : decode cX9_hear 31 = .ok (.ifCond .eq 25, 3) := by decide +kernel
theorem dX9_hear_34 : decode cX9_hear 34 = .ok (.aload_n 1, 1) := by decide +kernel
theorem dX9_hear_35 : decode cX9_hear 35 = .ok (.iconst 1, 1) := by decide +kernel
theorem dX9_hear_36 : decode cX9_hear 36 = .ok (.aload_n 0, 1) := by decide +kernel
theorem dX9_hear_37 : decode cX9_hear 37 = .ok (.getfield 9, 3) := by decide +kernel
theorem dX9_hear_40 : decode cX9_hear 40 = .ok (.iconst 1, 1) := by decide +kernel
theorem dX9_hear_41 : decode cX9_hear 41 = .ok (.isub, 1) := by decide +kernel
theorem dX9_hear_42 : decode cX9_hear 42 = .ok (.aload_n 0, 1) := by decide +kernel
theorem dX9_hear_43 : decode cX9_hear 43 = .ok (.getfield 19, 3) := by decide +kernel
theorem dX9_hear_46 : decode cX9_hear 46 = .ok (.invokestatic 75, 3) := by decide +kernel
theorem dX9_hear_49 : decode cX9_hear 49 = .ok (.ifCond .eq 7, 3) := by decide +kernel
theorem dX9_hear_52 : decode cX9_hear 52 = .ok (.iconst 1, 1) := by decide +kernel
theorem dX9_hear_53 : decode cX9_hear 53 = .ok (.goto 4, 3) := by decide +kernel
theorem dX9_hear_56 : decode cX9_hear 56 = .ok (.iconst 0, 1) := by decide +kernel
theorem dX9_hear_57 : decode cX9_hear 57 = .ok (.ireturn, 1) := by decide +kernel
theorem dX9_hearRoots_0 : decode cX9_hearRoots 0 = .ok (.iconst 0, 1) := by decide +kernel
theorem dX9_hearRoots_1 : decode cX9_hearRoots 1 = .ok (.istore 4, 2) := by decide +kernel
theorem dX9_hearRoots_3 : decode cX9_hearRoots 3 = .ok (.bipush (-6), 2) := by decide +kernel
theorem dX9_hearRoots_5 : decode cX9_hearRoots 5 = .ok (.istore 5, 2) := by decide +kernel
theorem dX9_hearRoots_7 : decode cX9_hearRoots 7 = .ok (.iload 5, 2) := by decide +kernel
theorem dX9_hearRoots_9 : decode cX9_hearRoots 9 = .ok (.bipush 6, 2) := by decide +kernel
theorem dX9_hearRoots_11 : decode cX9_hearRoots 11 = .ok (.if_icmp .gt 45, 3) := by decide +kernel
theorem dX9_hearRoots_14 : decode cX9_hearRoots 14 = .ok (.iload 4, 2) := by decide +kernel
theorem dX9_hearRoots_16 : decode cX9_hearRoots 16 = .ok (.iload_n 2, 1) := by decide +kernel
theorem dX9_hearRoots_17 : decode cX9_hearRoots 17 = .ok (.if_icmp .ge 33, 3) := by decide +kernel
theorem dX9_hearRoots_20 : decode cX9_hearRoots 20 = .ok (.iload 4, 2) := by decide +kernel
theorem dX9_hearRoots_22 : decode cX9_hearRoots 22 = .ok (.aload_n 3, 1) := by decide +kernel
theorem dX9_hearRoots_23 : decode cX9_hearRoots 23 = .ok (.arraylength, 1) := by decide +kernel
theorem dX9_hearRoots_24 : decode cX9_hearRoots 24 = .ok (.if_icmp .ge 26, 3) := by decide +kernel
theorem dX9_hearRoots_27 : decode cX9_hearRoots 27 = .ok (.aload_n 0, 1) := by decide +kernel
theorem dX9_hearRoots_28 : decode cX9_hearRoots 28 = .ok (.iload_n 1, 1) := by decide +kernel
theorem dX9_hearRoots_29 : decode cX9_hearRoots 29 = .ok (.iload_n 2, 1) := by decide +kernel
theorem dX9_hearRoots_30 : decode cX9_hearRoots 30 = .ok (.iload 5, 2) := by decide +kernel
theorem dX9_hearRoots_32 : decode cX9_hearRoots 32 = .ok (.iconst 1, 1) := by decide +kernel
theorem dX9_hearRoots_33 : decode cX9_hearRoots 33 = .ok (.invokevirtual 79, 3) := by decide +kernel
theorem dX9_hearRoots_36 : decode cX9_hearRoots 36 = .ok (.lconst 0, 1) := by decide +kernel
theorem dX9_hearRoots_37 : decode cX9_hearRoots 37 = .ok (.lcmp, 1) := by decide +kernel
theorem dX9_hearRoots_38 : decode cX9_hearRoots 38 = .ok (.ifCond .ne 12, 3) := by decide +kernel
theorem dX9_hearRoots_41 : decode cX9_hearRoots 41 = .ok (.aload_n 3, 1) := by decide +kernel
theorem dX9_hearRoots_42 : decode cX9_hearRoots 42 = .ok (.iload 4, 2) := by decide +kernel
theorem dX9_hearRoots_44 : decode cX9_hearRoots 44 = .ok (.iload 5, 2) := by decide +kernel
theorem dX9_hearRoots_46 : decode cX9_hearRoots 46 = .ok (.iastore, 1) := by decide +kernel
theorem dX9_hearRoots_47 : decode cX9_hearRoots 47 = .ok (.iinc 4 1, 3) := by decide +kernel
theorem dX9_hearRoots_50 : decode cX9_hearRoots 50 = .ok (.iinc 5 1, 3) := by decide +kernel
theorem dX9_hearRoots_53 : decode cX9_hearRoots 53 = .ok (.goto (-46), 3) := by decide +kernel
theorem dX9_hearRoots_56 : decode cX9_hearRoots 56 = .ok (.iload 4, 2) := by decide +kernel
theorem dX9_hearRoots_58 : decode cX9_hearRoots 58 = .ok (.iload_n 2, 1) := by decide +kernel
theorem dX9_hearRoots_59 : decode cX9_hearRoots 59 = .ok (.if_icmp .ne 7, 3) := by decide +kernel
theorem dX9_hearRoots_62 : decode cX9_hearRoots 62 = .ok (.iconst 1, 1) := by decide +kernel
theorem dX9_hearRoots_63 : decode cX9_hearRoots 63 = .ok (.goto 4, 3) := by decide +kernel
theorem dX9_hearRoots_66 : decode cX9_hearRoots 66 = .ok (.iconst 0, 1) := by decide +kernel
theorem dX9_hearRoots_67 : decode cX9_hearRoots 67 = .ok (.ireturn, 1) := by decide +kernel
theorem dX10_init_0 : decode cX10_init 0 = .ok (.aload_n 0, 1) := by decide +kernel
theorem dX10_init_1 : decode cX10_init 1 = .ok (.invokespecial 3, 3) := by decide +kernel
theorem dX10_init_4 : decode cX10_init 4 = .ok (.aload_n 0, 1) := by decide +kernel
theorem dX10_init_5 : decode cX10_init 5 = .ok (.iconst 0, 1) := by decide +kernel
theorem dX10_init_6 : decode cX10_init 6 = .ok (.putfield 9, 3) := by decide +kernel
theorem dX10_init_9 : decode cX10_init 9 = .ok (.aload_n 0, 1) := by decide +kernel
theorem dX10_init_10 : decode cX10_init 10 = .ok (.iconst 5, 1) := by decide +kernel
theorem dX10_init_11 : decode cX10_init 11 = .ok (.newarray .int, 2) := by decide +kernel
theorem dX10_init_13 : decode cX10_init 13 = .ok (.putfield 15, 3) := by decide +kernel
theorem dX10_init_16 : decode cX10_init 16 = .ok (.aload_n 0, 1) := by decide +kernel
theorem dX10_init_17 : decode cX10_init 17 = .ok (.iconst 4, 1) := by decide +kernel
theorem dX10_init_18 : decode cX10_init 18 = .ok (.newarray .int, 2) := by decide +kernel
theorem dX10_init_20 : decode cX10_init 20 = .ok (.putfield 19, 3) := by decide +kernel
theorem dX10_init_23 : decode cX10_init 23 = .ok (.return_, 1) := by decide +kernel
theorem dX10_begin_0 : decode cX10_begin 0 = .ok (.aload_n 0, 1) := by decide +kernel
theorem dX10_begin_1 : decode cX10_begin 1 = .ok (.iload_n 1, 1) := by decide +kernel
theorem dX10_begin_2 : decode cX10_begin 2 = .ok (.putfield 9, 3) := by decide +kernel
theorem dX10_begin_5 : decode cX10_begin 5 = .ok (.iconst 0, 1) := by decide +kernel
theorem dX10_begin_6 : decode cX10_begin 6 = .ok (.istore_n 2, 1) := by decide +kernel
theorem dX10_begin_7 : decode cX10_begin 7 = .ok (.iload_n 2, 1) := by decide +kernel
theorem dX10_begin_8 : decode cX10_begin 8 = .ok (.iconst 5, 1) := by decide +kernel
theorem dX10_begin_9 : decode cX10_begin 9 = .ok (.if_icmp .ge 16, 3) := by decide +kernel
theorem dX10_begin_12 : decode cX10_begin 12 = .ok (.aload_n 0, 1) := by decide +kernel
theorem dX10_begin_13 : decode cX10_begin 13 = .ok (.getfield 15, 3) := by decide +kernel
theorem dX10_begin_16 : decode cX10_begin 16 = .ok (.iload_n 2, 1) := by decide +kernel
theorem dX10_begin_17 : decode cX10_begin 17 = .ok (.iconst 0, 1) := by decide +kernel
theorem dX10_begin_18 : decode cX10_begin 18 = .ok (.iastore, 1) := by decide +kernel
theorem dX10_begin_19 : decode cX10_begin 19 = .ok (.iinc 2 1, 3) := by decide +kernel
theorem dX10_begin_22 : decode cX10_begin 22 = .ok (.goto (-15), 3) := by decide +kernel
theorem dX10_begin_25 : decode cX10_begin 25 = .ok (.iconst 0, 1) := by decide +kernel
theorem dX10_begin_26 : decode cX10_begin 26 = .ok (.istore_n 2, 1) := by decide +kernel
theorem dX10_begin_27 : decode cX10_begin 27 = .ok (.iload_n 2, 1) := by decide +kernel
theorem dX10_begin_28 : decode cX10_begin 28 = .ok (.iconst 4, 1) := by decide +kernel
theorem dX10_begin_29 : decode cX10_begin 29 = .ok (.if_icmp .ge 16, 3) := by decide +kernel
theorem dX10_begin_32 : decode cX10_begin 32 = .ok (.aload_n 0, 1) := by decide +kernel
theorem dX10_begin_33 : decode cX10_begin 33 = .ok (.getfield 19, 3) := by decide +kernel
theorem dX10_begin_36 : decode cX10_begin 36 = .ok (.iload_n 2, 1) := by decide +kernel
theorem dX10_begin_37 : decode cX10_begin 37 = .ok (.iconst 1, 1) := by decide +kernel
theorem dX10_begin_38 : decode cX10_begin 38 = .ok (.iastore, 1) := by decide +kernel
theorem dX10_begin_39 : decode cX10_begin 39 = .ok (.iinc 2 1, 3) := by decide +kernel
theorem dX10_begin_42 : decode cX10_begin 42 = .ok (.goto (-15), 3) := by decide +kernel
theorem dX10_begin_45 : decode cX10_begin 45 = .ok (.return_, 1) := by decide +kernel
theorem dX10_take_0 : decode cX10_take 0 = .ok (.aload_n 0, 1) := by decide +kernel
theorem dX10_take_1 : decode cX10_take 1 = .ok (.aload_n 1, 1) := by decide +kernel
theorem dX10_take_2 : decode cX10_take 2 = .ok (.getfield 22, 3) := by decide +kernel
theorem dX10_take_5 : decode cX10_take 5 = .ok (.putfield 9, 3) := by decide +kernel
theorem dX10_take_8 : decode cX10_take 8 = .ok (.iconst 0, 1) := by decide +kernel
theorem dX10_take_9 : decode cX10_take 9 = .ok (.istore_n 2, 1) := by decide +kernel
theorem dX10_take_10 : decode cX10_take 10 = .ok (.iload_n 2, 1) := by decide +kernel
theorem dX10_take_11 : decode cX10_take 11 = .ok (.iconst 5, 1) := by decide +kernel
theorem dX10_take_12 : decode cX10_take 12 = .ok (.if_icmp .ge 21, 3) := by decide +kernel
theorem dX10_take_15 : decode cX10_take 15 = .ok (.aload_n 0, 1) := by decide +kernel
theorem dX10_take_16 : decode cX10_take 16 = .ok (.getfield 15, 3) := by decide +kernel
theorem dX10_take_19 : decode cX10_take 19 = .ok (.iload_n 2, 1) := by decide +kernel
theorem dX10_take_20 : decode cX10_take 20 = .ok (.aload_n 1, 1) := by decide +kernel
theorem dX10_take_21 : decode cX10_take 21 = .ok (.getfield 27, 3) := by decide +kernel
theorem dX10_take_24 : decode cX10_take 24 = .ok (.iload_n 2, 1) := by decide +kernel
theorem dX10_take_25 : decode cX10_take 25 = .ok (.iaload, 1) := by decide +kernel
theorem dX10_take_26 : decode cX10_take 26 = .ok (.iastore, 1) := by decide +kernel
theorem dX10_take_27 : decode cX10_take 27 = .ok (.iinc 2 1, 3) := by decide +kernel
theorem dX10_take_30 : decode cX10_take 30 = .ok (.goto (-20), 3) := by decide +kernel
theorem dX10_take_33 : decode cX10_take 33 = .ok (.iconst 0, 1) := by decide +kernel
theorem dX10_take_34 : decode cX10_take 34 = .ok (.istore_n 2, 1) := by decide +kernel
theorem dX10_take_35 : decode cX10_take 35 = .ok (.iload_n 2, 1) := by decide +kernel
theorem dX10_take_36 : decode cX10_take 36 = .ok (.iconst 4, 1) := by decide +kernel
theorem dX10_take_37 : decode cX10_take 37 = .ok (.if_icmp .ge 21, 3) := by decide +kernel
theorem dX10_take_40 : decode cX10_take 40 = .ok (.aload_n 0, 1) := by decide +kernel
theorem dX10_take_41 : decode cX10_take 41 = .ok (.getfield 19, 3) := by decide +kernel
theorem dX10_take_44 : decode cX10_take 44 = .ok (.iload_n 2, 1) := by decide +kernel
theorem dX10_take_45 : decode cX10_take 45 = .ok (.aload_n 1, 1) := by decide +kernel
theorem dX10_take_46 : decode cX10_take 46 = .ok (.getfield 30, 3) := by decide +kernel
theorem dX10_take_49 : decode cX10_take 49 = .ok (.iload_n 2, 1) := by decide +kernel
theorem dX10_take_50 : decode cX10_take 50 = .ok (.iaload, 1) := by decide +kernel
theorem dX10_take_51 : decode cX10_take 51 = .ok (.iastore, 1) := by decide +kernel
theorem dX10_take_52 : decode cX10_take 52 = .ok (.iinc 2 1, 3) := by decide +kernel
theorem dX10_take_55 : decode cX10_take 55 = .ok (.goto (-20), 3) := by decide +kernel
theorem dX10_take_58 : decode cX10_take 58 = .ok (.return_, 1) := by decide +kernel
theorem dX10_copy_0 : decode cX10_copy 0 = .ok (.aload_n 0, 1) := by decide +kernel
theorem dX10_copy_1 : decode cX10_copy 1 = .ok (.aload_n 1, 1) := by decide +kernel
theorem dX10_copy_2 : decode cX10_copy 2 = .ok (.getfield 9, 3) := by decide +kernel
theorem dX10_copy_5 : decode cX10_copy 5 = .ok (.putfield 9, 3) := by decide +kernel
theorem dX10_copy_8 : decode cX10_copy 8 = .ok (.iconst 0, 1) := by decide +kernel
theorem dX10_copy_9 : decode cX10_copy 9 = .ok (.istore_n 2, 1) := by decide +kernel
theorem dX10_copy_10 : decode cX10_copy 10 = .ok (.iload_n 2, 1) := by decide +kernel
theorem dX10_copy_11 : decode cX10_copy 11 = .ok (.iconst 5, 1) := by decide +kernel
theorem dX10_copy_12 : decode cX10_copy 12 = .ok (.if_icmp .ge 21, 3) := by decide +kernel
theorem dX10_copy_15 : decode cX10_copy 15 = .ok (.aload_n 0, 1) := by decide +kernel
theorem dX10_copy_16 : decode cX10_copy 16 = .ok (.getfield 15, 3) := by decide +kernel
theorem dX10_copy_19 : decode cX10_copy 19 = .ok (.iload_n 2, 1) := by decide +kernel
theorem dX10_copy_20 : decode cX10_copy 20 = .ok (.aload_n 1, 1) := by decide +kernel
theorem dX10_copy_21 : decode cX10_copy 21 = .ok (.getfield 15, 3) := by decide +kernel
theorem dX10_copy_24 : decode cX10_copy 24 = .ok (.iload_n 2, 1) := by decide +kernel
theorem dX10_copy_25 : decode cX10_copy 25 = .ok (.iaload, 1) := by decide +kernel
theorem dX10_copy_26 : decode cX10_copy 26 = .ok (.iastore, 1) := by decide +kernel
theorem dX10_copy_27 : decode cX10_copy 27 = .ok (.iinc 2 1, 3) := by decide +kernel
theorem dX10_copy_30 : decode cX10_copy 30 = .ok (.goto (-20), 3) := by decide +kernel
theorem dX10_copy_33 : decode cX10_copy 33 = .ok (.iconst 0, 1) := by decide +kernel
theorem dX10_copy_34 : decode cX10_copy 34 = .ok (.istore_n 2, 1) := by decide +kernel
theorem dX10_copy_35 : decode cX10_copy 35 = .ok (.iload_n 2, 1) := by decide +kernel
theorem dX10_copy_36 : decode cX10_copy 36 = .ok (.iconst 4, 1) := by decide +kernel
theorem dX10_copy_37 : decode cX10_copy 37 = .ok (.if_icmp .ge 21, 3) := by decide +kernel
theorem dX10_copy_40 : decode cX10_copy 40 = .ok (.aload_n 0, 1) := by decide +kernel
theorem dX10_copy_41 : decode cX10_copy 41 = .ok (.getfield 19, 3) := by decide +kernel
theorem dX10_copy_44 : decode cX10_copy 44 = .ok (.iload_n 2, 1) := by decide +kernel
theorem dX10_copy_45 : decode cX10_copy 45 = .ok (.aload_n 1, 1) := by decide +kernel
theorem dX10_copy_46 : decode cX10_copy 46 = .ok (.getfield 19, 3) := by decide +kernel
theorem dX10_copy_49 : decode cX10_copy 49 = .ok (.iload_n 2, 1) := by decide +kernel
theorem dX10_copy_50 : decode cX10_copy 50 = .ok (.iaload, 1) := by decide +kernel
theorem dX10_copy_51 : decode cX10_copy 51 = .ok (.iastore, 1) := by decide +kernel
theorem dX10_copy_52 : decode cX10_copy 52 = .ok (.iinc 2 1, 3) := by decide +kernel
theorem dX10_copy_55 : decode cX10_copy 55 = .ok (.goto (-20), 3) := by decide +kernel
theorem dX10_copy_58 : decode cX10_copy 58 = .ok (.return_, 1) := by decide +kernel
theorem dX10_canBe_0 : decode cX10_canBe 0 = .ok (.iload_n 0, 1) := by decide +kernel
theorem dX10_canBe_1 : decode cX10_canBe 1 = .ok (.ifCond .eq 14, 3) := by decide +kernel
theorem dX10_canBe_4 : decode cX10_canBe 4 = .ok (.iload_n 1, 1) := by decide +kernel
theorem dX10_canBe_5 : decode cX10_canBe 5 = .ok (.bipush (-6), 2) := by decide +kernel
theorem dX10_canBe_7 : decode cX10_canBe 7 = .ok (.bipush 6, 2) := by decide +kernel
theorem dX10_canBe_9 : decode cX10_canBe 9 = .ok (.invokestatic 33, 3) := by decide +kernel
theorem dX10_canBe_12 : decode cX10_canBe 12 = .ok (.goto 10, 3) := by decide +kernel
theorem dX10_canBe_15 : decode cX10_canBe 15 = .ok (.iload_n 1, 1) := by decide +kernel
theorem dX10_canBe_16 : decode cX10_canBe 16 = .ok (.iconst 1, 1) := by decide +kernel
theorem dX10_canBe_17 : decode cX10_canBe 17 = .ok (.bipush 36, 2) := by decide +kernel
theorem dX10_canBe_19 : decode cX10_canBe 19 = .ok (.invokestatic 33, 3) := by decide +kernel
theorem dX10_canBe_22 : decode cX10_canBe 22 = .ok (.ireturn, 1) := by decide +kernel
theorem dX10_hasNumber_0 : decode cX10_hasNumber 0 = .ok (.iload_n 2, 1) := by decide +kernel
theorem dX10_hasNumber_1 : decode cX10_hasNumber 1 = .ok (.iconst 0, 1) := by decide +kernel
theorem dX10_hasNumber_2 : decode cX10_hasNumber 2 = .ok (.iload_n 1, 1) := by decide +kernel
theorem dX10_hasNumber_3 : decode cX10_hasNumber 3 = .ok (.ifCond .eq 12, 3) := by decide +kernel
theorem dX10_hasNumber_6 : decode cX10_hasNumber 6 = .ok (.aload_n 0, 1) := by decide +kernel
theorem dX10_hasNumber_7 : decode cX10_hasNumber 7 = .ok (.getfield 9, 3) := by decide +kernel
theorem dX10_hasNumber_10 : decode cX10_hasNumber 10 = .ok (.iconst 1, 1) := by decide +kernel
theorem dX10_hasNumber_11 : decode cX10_hasNumber 11 = .ok (.isub, 1) := by decide +kernel
theorem dX10_hasNumber_12 : decode cX10_hasNumber 12 = .ok (.goto 9, 3) := by decide +kernel
theorem dX10_hasNumber_15 : decode cX10_hasNumber 15 = .ok (.aload_n 0, 1) := by decide +kernel
theorem dX10_hasNumber_16 : decode cX10_hasNumber 16 = .ok (.getfield 9, 3) := by decide +kernel
theorem dX10_hasNumber_19 : decode cX10_hasNumber 19 = .ok (.iconst 2, 1) := by decide +kernel
theorem dX10_hasNumber_20 : decode cX10_hasNumber 20 = .ok (.isub, 1) := by decide +kernel
theorem dX10_hasNumber_21 : decode cX10_hasNumber 21 = .ok (.invokestatic 33, 3) := by decide +kernel
theorem dX10_hasNumber_24 : decode cX10_hasNumber 24 = .ok (.ireturn, 1) := by decide +kernel
theorem dX10_numberAt_0 : decode cX10_numberAt 0 = .ok (.iload_n 1, 1) := by decide +kernel
theorem dX10_numberAt_1 : decode cX10_numberAt 1 = .ok (.ifCond .eq 12, 3) := by decide +kernel
theorem dX10_numberAt_4 : decode cX10_numberAt 4 = .ok (.aload_n 0, 1) := by decide +kernel
theorem dX10_numberAt_5 : decode cX10_numberAt 5 = .ok (.getfield 15, 3) := by decide +kernel
theorem dX10_numberAt_8 : decode cX10_numberAt 8 = .ok (.iload_n 2, 1) := by decide +kernel
theorem dX10_numberAt_9 : decode cX10_numberAt 9 = .ok (.iaload, 1) := by decide +kernel
theorem dX10_numberAt_10 : decode cX10_numberAt 10 = .ok (.goto 9, 3) := by decide +kernel
theorem dX10_numberAt_13 : decode cX10_numberAt 13 = .ok (.aload_n 0, 1) := by decide +kernel
theorem dX10_numberAt_14 : decode cX10_numberAt 14 = .ok (.getfield 19, 3) := by decide +kernel
theorem dX10_numberAt_17 : decode cX10_numberAt 17 = .ok (.iload_n 2, 1) := by decide +kernel
theorem dX10_numberAt_18 : decode cX10_numberAt 18 = .ok (.iaload, 1) := by decide +kernel
theorem dX10_numberAt_19 : decode cX10_numberAt 19 = .ok (.ireturn, 1) := by decide +kernel
theorem dX10_setNumber_0 : decode cX10_setNumber 0 = .ok (.iload_n 1, 1) := by decide +kernel
theorem dX10_setNumber_1 : decode cX10_setNumber 1 = .ok (.ifCond .eq 13, 3) := by decide +kernel
theorem dX10_setNumber_4 : decode cX10_setNumber 4 = .ok (.aload_n 0, 1) := by decide +kernel
theorem dX10_setNumber_5 : decode cX10_setNumber 5 = .ok (.getfield 15, 3) := by decide +kernel
theorem dX10_setNumber_8 : decode cX10_setNumber 8 = .ok (.iload_n 2, 1) := by decide +kernel
theorem dX10_setNumber_9 : decode cX10_setNumber 9 = .ok (.iload_n 3, 1) := by decide +kernel
theorem dX10_setNumber_10 : decode cX10_setNumber 10 = .ok (.iastore, 1) := by decide +kernel
theorem dX10_setNumber_11 : decode cX10_setNumber 11 = .ok (.goto 10, 3) := by decide +kernel
theorem dX10_setNumber_14 : decode cX10_setNumber 14 = .ok (.aload_n 0, 1) := by decide +kernel
theorem dX10_setNumber_15 : decode cX10_setNumber 15 = .ok (.getfield 19, 3) := by decide +kernel
theorem dX10_setNumber_18 : decode cX10_setNumber 18 = .ok (.iload_n 2, 1) := by decide +kernel
theorem dX10_setNumber_19 : decode cX10_setNumber 19 = .ok (.iload_n 3, 1) := by decide +kernel
theorem dX10_setNumber_20 : decode cX10_setNumber 20 = .ok (.iastore, 1) := by decide +kernel
theorem dX10_setNumber_21 : decode cX10_setNumber 21 = .ok (.return_, 1) := by decide +kernel
theorem dX10_valueAt_0 : decode cX10_valueAt 0 = .ok (.lconst 0, 1) := by decide +kernel
theorem dX10_valueAt_1 : decode cX10_valueAt 1 = .ok (.lstore 5, 2) := by decide +kernel
theorem dX10_valueAt_3 : decode cX10_valueAt 3 = .ok (.lconst 1, 1) := by decide +kernel
theorem dX10_valueAt_4 : decode cX10_valueAt 4 = .ok (.lstore 7, 2) := by decide +kernel
theorem dX10_valueAt_6 : decode cX10_valueAt 6 = .ok (.iload_n 1, 1) := by decide +kernel
theorem dX10_valueAt_7 : decode cX10_valueAt 7 = .ok (.istore 9, 2) := by decide +kernel
theorem dX10_valueAt_9 : decode cX10_valueAt 9 = .ok (.iload 9, 2) := by decide +kernel
theorem dX10_valueAt_11 : decode cX10_valueAt 11 = .ok (.iload_n 1, 1) := by decide +kernel
theorem dX10_valueAt_12 : decode cX10_valueAt 12 = .ok (.iload_n 2, 1) := by decide +kernel
theorem dX10_valueAt_13 : decode cX10_valueAt 13 = .ok (.iadd, 1) := by decide +kernel
theorem dX10_valueAt_14 : decode cX10_valueAt 14 = .ok (.if_icmp .ge 41, 3) := by decide +kernel
theorem dX10_valueAt_17 : decode cX10_valueAt 17 = .ok (.iload 9, 2) := by decide +kernel
theorem dX10_valueAt_19 : decode cX10_valueAt 19 = .ok (.aload_n 0, 1) := by decide +kernel
theorem dX10_valueAt_20 : decode cX10_valueAt 20 = .ok (.getfield 9, 3) := by decide +kernel
theorem dX10_valueAt_23 : decode cX10_valueAt 23 = .ok (.if_icmp .ge 32, 3) := by decide +kernel
theorem dX10_valueAt_26 : decode cX10_valueAt 26 = .ok (.aload_n 0, 1) := by decide +kernel
theorem dX10_valueAt_27 : decode cX10_valueAt 27 = .ok (.iload 9, 2) := by decide +kernel
theorem dX10_valueAt_29 : decode cX10_valueAt 29 = .ok (.lload 5, 2) := by decide +kernel
theorem dX10_valueAt_31 : decode cX10_valueAt 31 = .ok (.lload 7, 2) := by decide +kernel
theorem dX10_valueAt_33 : decode cX10_valueAt 33 = .ok (.iload_n 3, 1) := by decide +kernel
theorem dX10_valueAt_34 : decode cX10_valueAt 34 = .ok (.iload 4, 2) := by decide +kernel
theorem dX10_valueAt_36 : decode cX10_valueAt 36 = .ok (.invokevirtual 37, 3) := by decide +kernel
theorem dX10_valueAt_39 : decode cX10_valueAt 39 = .ok (.lstore 10, 2) := by decide +kernel
theorem dX10_valueAt_41 : decode cX10_valueAt 41 = .ok (.lload 7, 2) := by decide +kernel
theorem dX10_valueAt_43 : decode cX10_valueAt 43 = .ok (.lstore 5, 2) := by decide +kernel
theorem dX10_valueAt_45 : decode cX10_valueAt 45 = .ok (.lload 10, 2) := by decide +kernel
theorem dX10_valueAt_47 : decode cX10_valueAt 47 = .ok (.lstore 7, 2) := by decide +kernel
theorem dX10_valueAt_49 : decode cX10_valueAt 49 = .ok (.iinc 9 1, 3) := by decide +kernel
theorem dX10_valueAt_52 : decode cX10_valueAt 52 = .ok (.goto (-43), 3) := by decide +kernel
theorem dX10_valueAt_55 : decode cX10_valueAt 55 = .ok (.lload 7, 2) := by decide +kernel
theorem dX10_valueAt_57 : decode cX10_valueAt 57 = .ok (.lreturn, 1) := by decide +kernel
theorem dX10_valueBehind_0 : decode cX10_valueBehind 0 = .ok (.iload 6, 2) := by decide +kernel
theorem dX10_valueBehind_2 : decode cX10_valueBehind 2 = .ok (.iload 7, 2) := by decide +kernel
theorem dX10_valueBehind_4 : decode cX10_valueBehind 4 = .ok (.aload_n 0, 1) := by decide +kernel
theorem dX10_valueBehind_5 : decode cX10_valueBehind 5 = .ok (.getfield 15, 3) := by decide +kernel
theorem dX10_valueBehind_8 : decode cX10_valueBehind 8 = .ok (.iload_n 1, 1) := by decide +kernel
theorem dX10_valueBehind_9 : decode cX10_valueBehind 9 = .ok (.iaload, 1) := by decide +kernel
theorem dX10_valueBehind_10 : decode cX10_valueBehind 10 = .ok (.imul, 1) := by decide +kernel
theorem dX10_valueBehind_11 : decode cX10_valueBehind 11 = .ok (.isub, 1) := by decide +kernel
theorem dX10_valueBehind_12 : decode cX10_valueBehind 12 = .ok (.i2l, 1) := by decide +kernel
theorem dX10_valueBehind_13 : decode cX10_valueBehind 13 = .ok (.lload 4, 2) := by decide +kernel
theorem dX10_valueBehind_15 : decode cX10_valueBehind 15 = .ok (.lmul, 1) := by decide +kernel
theorem dX10_valueBehind_16 : decode cX10_valueBehind 16 = .ok (.lstore 8, 2) := by decide +kernel
theorem dX10_valueBehind_18 : decode cX10_valueBehind 18 = .ok (.iload_n 1, 1) := by decide +kernel
theorem dX10_valueBehind_19 : decode cX10_valueBehind 19 = .ok (.ifCond .ne 8, 3) := by decide +kernel
theorem dX10_valueBehind_22 : decode cX10_valueBehind 22 = .ok (.lload 8, 2) := by decide +kernel
theorem dX10_valueBehind_24 : decode cX10_valueBehind 24 = .ok (.goto 25, 3) := by decide +kernel
theorem dX10_valueBehind_27 : decode cX10_valueBehind 27 = .ok (.lload 8, 2) := by decide +kernel
theorem dX10_valueBehind_29 : decode cX10_valueBehind 29 = .ok (.iload 7, 2) := by decide +kernel
theorem dX10_valueBehind_31 : decode cX10_valueBehind 31 = .ok (.i2l, 1) := by decide +kernel
theorem dX10_valueBehind_32 : decode cX10_valueBehind 32 = .ok (.iload 7, 2) := by decide +kernel
theorem dX10_valueBehind_34 : decode cX10_valueBehind 34 = .ok (.i2l, 1) := by decide +kernel
theorem dX10_valueBehind_35 : decode cX10_valueBehind 35 = .ok (.lmul, 1) := by decide +kernel
theorem dX10_valueBehind_36 : decode cX10_valueBehind 36 = .ok (.aload_n 0, 1) := by decide +kernel
theorem dX10_valueBehind_37 : decode cX10_valueBehind 37 = .ok (.getfield 19, 3) := by decide +kernel
theorem dX10_valueBehind_40 : decode cX10_valueBehind 40 = .ok (.iload_n 1, 1) := by decide +kernel
theorem dX10_valueBehind_41 : decode cX10_valueBehind 41 = .ok (.iconst 1, 1) := by decide +kernel
theorem dX10_valueBehind_42 : decode cX10_valueBehind 42 = .ok (.isub, 1) := by decide +kernel
theorem dX10_valueBehind_43 : decode cX10_valueBehind 43 = .ok (.iaload, 1) := by decide +kernel
theorem dX10_valueBehind_44 : decode cX10_valueBehind 44 = .ok (.i2l, 1) := by decide +kernel
theorem dX10_valueBehind_45 : decode cX10_valueBehind 45 = .ok (.lmul, 1) := by decide +kernel
theorem dX10_valueBehind_46 : decode cX10_valueBehind 46 = .ok (.lload_n 2, 1) := by decide +kernel
theorem dX10_valueBehind_47 : decode cX10_valueBehind 47 = .ok (.lmul, 1) := by decide +kernel
theorem dX10_valueBehind_48 : decode cX10_valueBehind 48 = .ok (.lsub, 1) := by decide +kernel
theorem dX10_valueBehind_49 : decode cX10_valueBehind 49 = .ok (.lreturn, 1) := by decide +kernel
theorem dX10_rootsBelow_0 : decode cX10_rootsBelow 0 = .ok (.iconst 0, 1) := by decide +kernel
theorem dX10_rootsBelow_1 : decode cX10_rootsBelow 1 = .ok (.istore 4, 2) := by decide +kernel
theorem dX10_rootsBelow_3 : decode cX10_rootsBelow 3 = .ok (.iconst 1, 1) := by decide +kernel
theorem dX10_rootsBelow_4 : decode cX10_rootsBelow 4 = .ok (.istore 5, 2) := by decide +kernel
theorem dX10_rootsBelow_6 : decode cX10_rootsBelow 6 = .ok (.lconst 0, 1) := by decide +kernel
theorem dX10_rootsBelow_7 : decode cX10_rootsBelow 7 = .ok (.lstore 6, 2) := by decide +kernel
theorem dX10_rootsBelow_9 : decode cX10_rootsBelow 9 = .ok (.lconst 1, 1) := by decide +kernel
theorem dX10_rootsBelow_10 : decode cX10_rootsBelow 10 = .ok (.lstore 8, 2) := by decide +kernel
theorem dX10_rootsBelow_12 : decode cX10_rootsBelow 12 = .ok (.iconst 0, 1) := by decide +kernel
theorem dX10_rootsBelow_13 : decode cX10_rootsBelow 13 = .ok (.istore 10, 2) := by decide +kernel
theorem dX10_rootsBelow_15 : decode cX10_rootsBelow 15 = .ok (.iload 10, 2) := by decide +kernel
theorem dX10_rootsBelow_17 : decode cX10_rootsBelow 17 = .ok (.iload_n 1, 1) := by decide +kernel
theorem dX10_rootsBelow_18 : decode cX10_rootsBelow 18 = .ok (.if_icmp .ge 97, 3) := by decide +kernel
theorem dX10_rootsBelow_21 : decode cX10_rootsBelow 21 = .ok (.iload 10, 2) := by decide +kernel
theorem dX10_rootsBelow_23 : decode cX10_rootsBelow 23 = .ok (.aload_n 0, 1) := by decide +kernel
theorem dX10_rootsBelow_24 : decode cX10_rootsBelow 24 = .ok (.getfield 9, 3) := by decide +kernel
theorem dX10_rootsBelow_27 : decode cX10_rootsBelow 27 = .ok (.if_icmp .ge 88, 3) := by decide +kernel
theorem dX10_rootsBelow_30 : decode cX10_rootsBelow 30 = .ok (.aload_n 0, 1) := by decide +kernel
theorem dX10_rootsBelow_31 : decode cX10_rootsBelow 31 = .ok (.iload 10, 2) := by decide +kernel
theorem dX10_rootsBelow_33 : decode cX10_rootsBelow 33 = .ok (.lload 6, 2) := by decide +kernel
theorem dX10_rootsBelow_35 : decode cX10_rootsBelow 35 = .ok (.lload 8, 2) := by decide +kernel
theorem dX10_rootsBelow_37 : decode cX10_rootsBelow 37 = .ok (.iload_n 2, 1) := by decide +kernel
theorem dX10_rootsBelow_38 : decode cX10_rootsBelow 38 = .ok (.iload_n 3, 1) := by decide +kernel
theorem dX10_rootsBelow_39 : decode cX10_rootsBelow 39 = .ok (.invokevirtual 37, 3) := by decide +kernel
theorem dX10_rootsBelow_42 : decode cX10_rootsBelow 42 = .ok (.lstore 11, 2) := by decide +kernel
theorem dX10_rootsBelow_44 : decode cX10_rootsBelow 44 = .ok (.iload 5, 2) := by decide +kernel
theorem dX10_rootsBelow_46 : decode cX10_rootsBelow 46 = .ok (.ifCond .eq 18, 3) := by decide +kernel
theorem dX10_rootsBelow_49 : decode cX10_rootsBelow 49 = .ok (.lload 11, 2) := by decide +kernel
theorem dX10_rootsBelow_51 : decode cX10_rootsBelow 51 = .ok (.lconst 0, 1) := by decide +kernel
theorem dX10_rootsBelow_52 : decode cX10_rootsBelow 52 = .ok (.lcmp, 1) := by decide +kernel
theorem dX10_rootsBelow_53 : decode cX10_rootsBelow 53 = .ok (.ifCond .le 7, 3) := by decide +kernel
theorem dX10_rootsBelow_56 : decode cX10_rootsBelow 56 = .ok (.iconst 1, 1) := by decide +kernel
theorem dX10_rootsBelow_57 : decode cX10_rootsBelow 57 = .ok (.goto 19, 3) := by decide +kernel
theorem dX10_rootsBelow_60 : decode cX10_rootsBelow 60 = .ok (.iconst 0, 1) := by decide +kernel
theorem dX10_rootsBelow_61 : decode cX10_rootsBelow 61 = .ok (.goto 15, 3) := by decide +kernel
theorem dX10_rootsBelow_64 : decode cX10_rootsBelow 64 = .ok (.lload 11, 2) := by decide +kernel
theorem dX10_rootsBelow_66 : decode cX10_rootsBelow 66 = .ok (.lconst 0, 1) := by decide +kernel
theorem dX10_rootsBelow_67 : decode cX10_rootsBelow 67 = .ok (.lcmp, 1) := by decide +kernel
theorem dX10_rootsBelow_68 : decode cX10_rootsBelow 68 = .ok (.ifCond .ge 7, 3) := by decide +kernel
theorem dX10_rootsBelow_71 : decode cX10_rootsBelow 71 = .ok (.iconst 1, 1) := by decide +kernel
theorem dX10_rootsBelow_72 : decode cX10_rootsBelow 72 = .ok (.goto 4, 3) := by decide +kernel
theorem dX10_rootsBelow_75 : decode cX10_rootsBelow 75 = .ok (.iconst 0, 1) := by decide +kernel
theorem dX10_rootsBelow_76 : decode cX10_rootsBelow 76 = .ok (.istore 13, 2) := by decide +kernel
theorem dX10_rootsBelow_78 : decode cX10_rootsBelow 78 = .ok (.iload 13, 2) := by decide +kernel
theorem dX10_rootsBelow_80 : decode cX10_rootsBelow 80 = .ok (.ifCond .eq 9, 3) := by decide +kernel
theorem dX10_rootsBelow_83 : decode cX10_rootsBelow 83 = .ok (.iinc 4 1, 3) := by decide +kernel
theorem dX10_rootsBelow_86 : decode cX10_rootsBelow 86 = .ok (.goto 15, 3) := by decide +kernel
theorem dX10_rootsBelow_89 : decode cX10_rootsBelow 89 = .ok (.iload 5, 2) := by decide +kernel
theorem dX10_rootsBelow_91 : decode cX10_rootsBelow 91 = .ok (.ifCond .ne 7, 3) := by decide +kernel
theorem dX10_rootsBelow_94 : decode cX10_rootsBelow 94 = .ok (.iconst 1, 1) := by decide +kernel
theorem dX10_rootsBelow_95 : decode cX10_rootsBelow 95 = .ok (.goto 4, 3) := by decide +kernel
theorem dX10_rootsBelow_98 : decode cX10_rootsBelow 98 = .ok (.iconst 0, 1) := by decide +kernel
theorem dX10_rootsBelow_99 : decode cX10_rootsBelow 99 = .ok (.istore 5, 2) := by decide +kernel
theorem dX10_rootsBelow_101 : decode cX10_rootsBelow 101 = .ok (.lload 8, 2) := by decide +kernel
theorem dX10_rootsBelow_103 : decode cX10_rootsBelow 103 = .ok (.lstore 6, 2) := by decide +kernel
theorem dX10_rootsBelow_105 : decode cX10_rootsBelow 105 = .ok (.lload 11, 2) := by decide +kernel
theorem dX10_rootsBelow_107 : decode cX10_rootsBelow 107 = .ok (.lstore 8, 2) := by decide +kernel
theorem dX10_rootsBelow_109 : decode cX10_rootsBelow 109 = .ok (.iinc 10 1, 3) := by decide +kernel
theorem dX10_rootsBelow_112 : decode cX10_rootsBelow 112 = .ok (.goto (-97), 3) := by decide +kernel
theorem dX10_rootsBelow_115 : decode cX10_rootsBelow 115 = .ok (.iload 4, 2) := by decide +kernel
theorem dX10_rootsBelow_117 : decode cX10_rootsBelow 117 = .ok (.ireturn, 1) := by decide +kernel
theorem dX10_rootInParts_0 : decode cX10_rootInParts 0 = .ok (.bipush (-18), 2) := by decide +kernel
theorem dX10_rootInParts_2 : decode cX10_rootInParts 2 = .ok (.iload_n 3, 1) := by decide +kernel
theorem dX10_rootInParts_3 : decode cX10_rootInParts 3 = .ok (.imul, 1) := by decide +kernel
theorem dX10_rootInParts_4 : decode cX10_rootInParts 4 = .ok (.istore 4, 2) := by decide +kernel
theorem dX10_rootInParts_6 : decode cX10_rootInParts 6 = .ok (.sipush 1024, 3) := by decide +kernel
theorem dX10_rootInParts_9 : decode cX10_rootInParts 9 = .ok (.istore 5, 2) := by decide +kernel
theorem dX10_rootInParts_11 : decode cX10_rootInParts 11 = .ok (.iload 5, 2) := by decide +kernel
theorem dX10_rootInParts_13 : decode cX10_rootInParts 13 = .ok (.ifCond .le 46, 3) := by decide +kernel
theorem dX10_rootInParts_16 : decode cX10_rootInParts 16 = .ok (.iload 4, 2) := by decide +kernel
theorem dX10_rootInParts_18 : decode cX10_rootInParts 18 = .ok (.iload 5, 2) := by decide +kernel
theorem dX10_rootInParts_20 : decode cX10_rootInParts 20 = .ok (.iadd, 1) := by decide +kernel
theorem dX10_rootInParts_21 : decode cX10_rootInParts 21 = .ok (.bipush 18, 2) := by decide +kernel
theorem dX10_rootInParts_23 : decode cX10_rootInParts 23 = .ok (.iload_n 3, 1) := by decide +kernel
theorem dX10_rootInParts_24 : decode cX10_rootInParts 24 = .ok (.imul, 1) := by decide +kernel
theorem dX10_rootInParts_25 : decode cX10_rootInParts 25 = .ok (.if_icmp .gt 25, 3) := by decide +kernel
theorem dX10_rootInParts_28 : decode cX10_rootInParts 28 = .ok (.aload_n 0, 1) := by decide +kernel
theorem dX10_rootInParts_29 : decode cX10_rootInParts 29 = .ok (.iload_n 1, 1) := by decide +kernel
theorem dX10_rootInParts_30 : decode cX10_rootInParts 30 = .ok (.iload 4, 2) := by decide +kernel
theorem dX10_rootInParts_32 : decode cX10_rootInParts 32 = .ok (.iload 5, 2) := by decide +kernel
theorem dX10_rootInParts_34 : decode cX10_rootInParts 34 = .ok (.iadd, 1) := by decide +kernel
theorem dX10_rootInParts_35 : decode cX10_rootInParts 35 = .ok (.iload_n 3, 1) := by decide +kernel
theorem dX10_rootInParts_36 : decode cX10_rootInParts 36 = .ok (.invokevirtual 41, 3) := by decide +kernel
theorem dX10_rootInParts_39 : decode cX10_rootInParts 39 = .ok (.iload_n 2, 1) := by decide +kernel
theorem dX10_rootInParts_40 : decode cX10_rootInParts 40 = .ok (.if_icmp .gt 10, 3) := by decide +kernel
theorem dX10_rootInParts_43 : decode cX10_rootInParts 43 = .ok (.iload 4, 2) := by decide +kernel
theorem dX10_rootInParts_45 : decode cX10_rootInParts 45 = .ok (.iload 5, 2) := by decide +kernel
theorem dX10_rootInParts_47 : decode cX10_rootInParts 47 = .ok (.iadd, 1) := by decide +kernel
theorem dX10_rootInParts_48 : decode cX10_rootInParts 48 = .ok (.istore 4, 2) := by decide +kernel
theorem dX10_rootInParts_50 : decode cX10_rootInParts 50 = .ok (.iload 5, 2) := by decide +kernel
theorem dX10_rootInParts_52 : decode cX10_rootInParts 52 = .ok (.iconst 2, 1) := by decide +kernel
theorem dX10_rootInParts_53 : decode cX10_rootInParts 53 = .ok (.idiv, 1) := by decide +kernel
theorem dX10_rootInParts_54 : decode cX10_rootInParts 54 = .ok (.istore 5, 2) := by decide +kernel
theorem dX10_rootInParts_56 : decode cX10_rootInParts 56 = .ok (.goto (-45), 3) := by decide +kernel
theorem dX10_rootInParts_59 : decode cX10_rootInParts 59 = .ok (.iload 4, 2) := by decide +kernel
theorem dX10_rootInParts_61 : decode cX10_rootInParts 61 = .ok (.ireturn, 1) := by decide +kernel
theorem dX10_wholeRoots_0 : decode cX10_wholeRoots 0 = .ok (.iconst 0, 1) := by decide +kernel
theorem dX10_wholeRoots_1 : decode cX10_wholeRoots 1 = .ok (.istore_n 2, 1) := by decide +kernel
theorem dX10_wholeRoots_2 : decode cX10_wholeRoots 2 = .ok (.bipush (-18), 2) := by decide +kernel
theorem dX10_wholeRoots_4 : decode cX10_wholeRoots 4 = .ok (.istore_n 3, 1) := by decide +kernel
theorem dX10_wholeRoots_5 : decode cX10_wholeRoots 5 = .ok (.iload_n 3, 1) := by decide +kernel
theorem dX10_wholeRoots_6 : decode cX10_wholeRoots 6 = .ok (.bipush 18, 2) := by decide +kernel
theorem dX10_wholeRoots_8 : decode cX10_wholeRoots 8 = .ok (.if_icmp .gt 25, 3) := by decide +kernel
theorem dX10_wholeRoots_11 : decode cX10_wholeRoots 11 = .ok (.aload_n 0, 1) := by decide +kernel
theorem dX10_wholeRoots_12 : decode cX10_wholeRoots 12 = .ok (.iconst 0, 1) := by decide +kernel
theorem dX10_wholeRoots_13 : decode cX10_wholeRoots 13 = .ok (.iload_n 1, 1) := by decide +kernel
theorem dX10_wholeRoots_14 : decode cX10_wholeRoots 14 = .ok (.iload_n 3, 1) := by decide +kernel
theorem dX10_wholeRoots_15 : decode cX10_wholeRoots 15 = .ok (.iconst 1, 1) := by decide +kernel
theorem dX10_wholeRoots_16 : decode cX10_wholeRoots 16 = .ok (.invokevirtual 45, 3) := by decide +kernel
theorem dX10_wholeRoots_19 : decode cX10_wholeRoots 19 = .ok (.lconst 0, 1) := by decide +kernel
theorem dX10_wholeRoots_20 : decode cX10_wholeRoots 20 = .ok (.lcmp, 1) := by decide +kernel
theorem dX10_wholeRoots_21 : decode cX10_wholeRoots 21 = .ok (.ifCond .ne 6, 3) := by decide +kernel
theorem dX10_wholeRoots_24 : decode cX10_wholeRoots 24 = .ok (.iinc 2 1, 3) := by decide +kernel
theorem dX10_wholeRoots_27 : decode cX10_wholeRoots 27 = .ok (.iinc 3 1, 3) := by decide +kernel
theorem dX10_wholeRoots_30 : decode cX10_wholeRoots 30 = .ok (.goto (-25), 3) := by decide +kernel
theorem dX10_wholeRoots_33 : decode cX10_wholeRoots 33 = .ok (.iload_n 2, 1) := by decide +kernel
theorem dX10_wholeRoots_34 : decode cX10_wholeRoots 34 = .ok (.ireturn, 1) := by decide +kernel
theorem dX10_areWhole_0 : decode cX10_areWhole 0 = .ok (.iconst 0, 1) := by decide +kernel
theorem dX10_areWhole_1 : decode cX10_areWhole 1 = .ok (.istore_n 2, 1) := by decide +kernel
theorem dX10_areWhole_2 : decode cX10_areWhole 2 = .ok (.bipush (-18), 2) := by decide +kernel
theorem dX10_areWhole_4 : decode cX10_areWhole 4 = .ok (.istore_n 3, 1) := by decide +kernel
theorem dX10_areWhole_5 : decode cX10_areWhole 5 = .ok (.iload_n 3, 1) := by decide +kernel
theorem dX10_areWhole_6 : decode cX10_areWhole 6 = .ok (.bipush 18, 2) := by decide +kernel
theorem dX10_areWhole_8 : decode cX10_areWhole 8 = .ok (.if_icmp .gt 67, 3) := by decide +kernel
theorem dX10_areWhole_11 : decode cX10_areWhole 11 = .ok (.aload_n 0, 1) := by decide +kernel
theorem dX10_areWhole_12 : decode cX10_areWhole 12 = .ok (.iconst 0, 1) := by decide +kernel
theorem dX10_areWhole_13 : decode cX10_areWhole 13 = .ok (.iload_n 1, 1) := by decide +kernel
theorem dX10_areWhole_14 : decode cX10_areWhole 14 = .ok (.iload_n 3, 1) := by decide +kernel
theorem dX10_areWhole_15 : decode cX10_areWhole 15 = .ok (.iconst 1, 1) := by decide +kernel
theorem dX10_areWhole_16 : decode cX10_areWhole 16 = .ok (.invokevirtual 45, 3) := by decide +kernel
theorem dX10_areWhole_19 : decode cX10_areWhole 19 = .ok (.lstore 4, 2) := by decide +kernel
theorem dX10_areWhole_21 : decode cX10_areWhole 21 = .ok (.iload_n 1, 1) := by decide +kernel
theorem dX10_areWhole_22 : decode cX10_areWhole 22 = .ok (.iload_n 2, 1) := by decide +kernel
theorem dX10_areWhole_23 : decode cX10_areWhole 23 = .ok (.isub, 1) := by decide +kernel
theorem dX10_areWhole_24 : decode cX10_areWhole 24 = .ok (.iconst 2, 1) := by decide +kernel
theorem dX10_areWhole_25 : decode cX10_areWhole 25 = .ok (.irem, 1) := by decide +kernel
theorem dX10_areWhole_26 : decode cX10_areWhole 26 = .ok (.iconst 1, 1) := by decide +kernel
theorem dX10_areWhole_27 : decode cX10_areWhole 27 = .ok (.if_icmp .ne 7, 3) := by decide +kernel
theorem dX10_areWhole_30 : decode cX10_areWhole 30 = .ok (.iconst 1, 1) := by decide +kernel
theorem dX10_areWhole_31 : decode cX10_areWhole 31 = .ok (.goto 4, 3) := by decide +kernel
theorem dX10_areWhole_34 : decode cX10_areWhole 34 = .ok (.iconst 0, 1) := by decide +kernel
theorem dX10_areWhole_35 : decode cX10_areWhole 35 = .ok (.istore 6, 2) := by decide +kernel
theorem dX10_areWhole_37 : decode cX10_areWhole 37 = .ok (.lload 4, 2) := by decide +kernel
theorem dX10_areWhole_39 : decode cX10_areWhole 39 = .ok (.lconst 0, 1) := by decide +kernel
theorem dX10_areWhole_40 : decode cX10_areWhole 40 = .ok (.lcmp, 1) := by decide +kernel
theorem dX10_areWhole_41 : decode cX10_areWhole 41 = .ok (.ifCond .ne 9, 3) := by decide +kernel
theorem dX10_areWhole_44 : decode cX10_areWhole 44 = .ok (.iinc 2 1, 3) := by decide +kernel
theorem dX10_areWhole_47 : decode cX10_areWhole 47 = .ok (.goto 22, 3) := by decide +kernel
theorem dX10_areWhole_50 : decode cX10_areWhole 50 = .ok (.lload 4, 2) := by decide +kernel
theorem dX10_areWhole_52 : decode cX10_areWhole 52 = .ok (.lconst 0, 1) := by decide +kernel
theorem dX10_areWhole_53 : decode cX10_areWhole 53 = .ok (.lcmp, 1) := by decide +kernel
theorem dX10_areWhole_54 : decode cX10_areWhole 54 = .ok (.ifCond .ge 7, 3) := by decide +kernel
theorem dX10_areWhole_57 : decode cX10_areWhole 57 = .ok (.iconst 1, 1) := by decide +kernel
theorem dX10_areWhole_58 : decode cX10_areWhole 58 = .ok (.goto 4, 3) := by decide +kernel
theorem dX10_areWhole_61 : decode cX10_areWhole 61 = .ok (.iconst 0, 1) := by decide +kernel
theorem dX10_areWhole_62 : decode cX10_areWhole 62 = .ok (.iload 6, 2) := by decide +kernel
theorem dX10_areWhole_64 : decode cX10_areWhole 64 = .ok (.if_icmp .eq 5, 3) := by decide +kernel
theorem dX10_areWhole_67 : decode cX10_areWhole 67 = .ok (.iconst 0, 1) := by decide +kernel
theorem dX10_areWhole_68 : decode cX10_areWhole 68 = .ok (.ireturn, 1) := by decide +kernel
theorem dX10_areWhole_69 : decode cX10_areWhole 69 = .ok (.iinc 3 1, 3) := by decide +kernel
theorem dX10_areWhole_72 : decode cX10_areWhole 72 = .ok (.goto (-67), 3) := by decide +kernel
theorem dX10_areWhole_75 : decode cX10_areWhole 75 = .ok (.iload_n 2, 1) := by decide +kernel
theorem dX10_areWhole_76 : decode cX10_areWhole 76 = .ok (.iload_n 1, 1) := by decide +kernel
theorem dX10_areWhole_77 : decode cX10_areWhole 77 = .ok (.if_icmp .ne 7, 3) := by decide +kernel
theorem dX10_areWhole_80 : decode cX10_areWhole 80 = .ok (.iconst 1, 1) := by decide +kernel
theorem dX10_areWhole_81 : decode cX10_areWhole 81 = .ok (.goto 4, 3) := by decide +kernel
theorem dX10_areWhole_84 : decode cX10_areWhole 84 = .ok (.iconst 0, 1) := by decide +kernel
theorem dX10_areWhole_85 : decode cX10_areWhole 85 = .ok (.ireturn, 1) := by decide +kernel
theorem dX10_meets_0 : decode cX10_meets 0 = .ok (.iload_n 1, 1) := by decide +kernel
theorem dX10_meets_1 : decode cX10_meets 1 = .ok (.ifCond .ne 12, 3) := by decide +kernel
theorem dX10_meets_4 : decode cX10_meets 4 = .ok (.aload_n 0, 1) := by decide +kernel
theorem dX10_meets_5 : decode cX10_meets 5 = .ok (.aload_n 0, 1) := by decide +kernel
theorem dX10_meets_6 : decode cX10_meets 6 = .ok (.getfield 9, 3) := by decide +kernel
theorem dX10_meets_9 : decode cX10_meets 9 = .ok (.invokevirtual 49, 3) := by decide +kernel
theorem dX10_meets_12 : decode cX10_meets 12 = .ok (.ireturn, 1) := by decide +kernel
theorem dX10_meets_13 : decode cX10_meets 13 = .ok (.iload_n 1, 1) := by decide +kernel
theorem dX10_meets_14 : decode cX10_meets 14 = .ok (.iconst 1, 1) := by decide +kernel
theorem dX10_meets_15 : decode cX10_meets 15 = .ok (.if_icmp .ne 25, 3) := by decide +kernel
theorem dX10_meets_18 : decode cX10_meets 18 = .ok (.aload_n 0, 1) := by decide +kernel
theorem dX10_meets_19 : decode cX10_meets 19 = .ok (.iconst 0, 1) := by decide +kernel
theorem dX10_meets_20 : decode cX10_meets 20 = .ok (.aload_n 0, 1) := by decide +kernel
theorem dX10_meets_21 : decode cX10_meets 21 = .ok (.getfield 9, 3) := by decide +kernel
theorem dX10_meets_24 : decode cX10_meets 24 = .ok (.iconst 0, 1) := by decide +kernel
theorem dX10_meets_25 : decode cX10_meets 25 = .ok (.iconst 1, 1) := by decide +kernel
theorem dX10_meets_26 : decode cX10_meets 26 = .ok (.invokevirtual 45, 3) := by decide +kernel
theorem dX10_meets_29 : decode cX10_meets 29 = .ok (.lconst 0, 1) := by decide +kernel
theorem dX10_meets_30 : decode cX10_meets 30 = .ok (.lcmp, 1) := by decide +kernel
theorem dX10_meets_31 : decode cX10_meets 31 = .ok (.ifCond .ne 7, 3) := by decide +kernel
theorem dX10_meets_34 : decode cX10_meets 34 = .ok (.iconst 1, 1) := by decide +kernel
theorem dX10_meets_35 : decode cX10_meets 35 = .ok (.goto 4, 3) := by decide +kernel
theorem dX10_meets_38 : decode cX10_meets 38 = .ok (.iconst 0, 1) := by decide +kernel
theorem dX10_meets_39 : decode cX10_meets 39 = .ok (.ireturn, 1) := by decide +kernel
theorem dX10_meets_40 : decode cX10_meets 40 = .ok (.aload_n 0, 1) := by decide +kernel
theorem dX10_meets_41 : decode cX10_meets 41 = .ok (.aload_n 0, 1) := by decide +kernel
theorem dX10_meets_42 : decode cX10_meets 42 = .ok (.getfield 9, 3) := by decide +kernel
theorem dX10_meets_45 : decode cX10_meets 45 = .ok (.iconst 0, 1) := by decide +kernel
theorem dX10_meets_46 : decode cX10_meets 46 = .ok (.iconst 1, 1) := by decide +kernel
theorem dX10_meets_47 : decode cX10_meets 47 = .ok (.invokevirtual 41, 3) := by decide +kernel
theorem dX10_meets_50 : decode cX10_meets 50 = .ok (.ifCond .ne 7, 3) := by decide +kernel
theorem dX10_meets_53 : decode cX10_meets 53 = .ok (.iconst 1, 1) := by decide +kernel
theorem dX10_meets_54 : decode cX10_meets 54 = .ok (.goto 4, 3) := by decide +kernel
theorem dX10_meets_57 : decode cX10_meets 57 = .ok (.iconst 0, 1) := by decide +kernel
theorem dX10_meets_58 : decode cX10_meets 58 = .ok (.ireturn, 1) := by decide +kernel
theorem dX10_invert_0 : decode cX10_invert 0 = .ok (.iload_n 1, 1) := by decide +kernel
theorem dX10_invert_1 : decode cX10_invert 1 = .ok (.iload_n 2, 1) := by decide +kernel
theorem dX10_invert_2 : decode cX10_invert 2 = .ok (.invokestatic 53, 3) := by decide +kernel
theorem dX10_invert_5 : decode cX10_invert 5 = .ok (.istore 4, 2) := by decide +kernel
theorem dX10_invert_7 : decode cX10_invert 7 = .ok (.iload_n 1, 1) := by decide +kernel
theorem dX10_invert_8 : decode cX10_invert 8 = .ok (.iload_n 2, 1) := by decide +kernel
theorem dX10_invert_9 : decode cX10_invert 9 = .ok (.invokestatic 59, 3) := by decide +kernel
theorem dX10_invert_12 : decode cX10_invert 12 = .ok (.istore 5, 2) := by decide +kernel
theorem dX10_invert_14 : decode cX10_invert 14 = .ok (.aload_n 0, 1) := by decide +kernel
theorem dX10_invert_15 : decode cX10_invert 15 = .ok (.iconst 0, 1) := by decide +kernel
theorem dX10_invert_16 : decode cX10_invert 16 = .ok (.aload_n 0, 1) := by decide +kernel
theorem dX10_invert_17 : decode cX10_invert 17 = .ok (.getfield 9, 3) := by decide +kernel
theorem dX10_invert_20 : decode cX10_invert 20 = .ok (.iconst 0, 1) := by decide +kernel
theorem dX10_invert_21 : decode cX10_invert 21 = .ok (.iconst 1, 1) := by decide +kernel
theorem dX10_invert_22 : decode cX10_invert 22 = .ok (.invokevirtual 45, 3) := by decide +kernel
theorem dX10_invert_25 : decode cX10_invert 25 = .ok (.lstore 6, 2) := by decide +kernel
theorem dX10_invert_27 : decode cX10_invert 27 = .ok (.lload 6, 2) := by decide +kernel
theorem dX10_invert_29 : decode cX10_invert 29 = .ok (.lconst 0, 1) := by decide +kernel
theorem dX10_invert_30 : decode cX10_invert 30 = .ok (.lcmp, 1) := by decide +kernel
theorem dX10_invert_31 : decode cX10_invert 31 = .ok (.ifCond .ne 5, 3) := by decide +kernel
theorem dX10_invert_34 : decode cX10_invert 34 = .ok (.iconst 0, 1) := by decide +kernel
theorem dX10_invert_35 : decode cX10_invert 35 = .ok (.ireturn, 1) := by decide +kernel
theorem dX10_invert_36 : decode cX10_invert 36 = .ok (.aload_n 0, 1) := by decide +kernel
theorem dX10_invert_37 : decode cX10_invert 37 = .ok (.iconst 0, 1) := by decide +kernel
theorem dX10_invert_38 : decode cX10_invert 38 = .ok (.iload 4, 2) := by decide +kernel
theorem dX10_invert_40 : decode cX10_invert 40 = .ok (.iconst 0, 1) := by decide +kernel
theorem dX10_invert_41 : decode cX10_invert 41 = .ok (.iconst 1, 1) := by decide +kernel
theorem dX10_invert_42 : decode cX10_invert 42 = .ok (.invokevirtual 45, 3) := by decide +kernel
theorem dX10_invert_45 : decode cX10_invert 45 = .ok (.aload_n 0, 1) := by decide +kernel
theorem dX10_invert_46 : decode cX10_invert 46 = .ok (.iload 5, 2) := by decide +kernel
theorem dX10_invert_48 : decode cX10_invert 48 = .ok (.iconst 1, 1) := by decide +kernel
theorem dX10_invert_49 : decode cX10_invert 49 = .ok (.iadd, 1) := by decide +kernel
theorem dX10_invert_50 : decode cX10_invert 50 = .ok (.aload_n 0, 1) := by decide +kernel
theorem dX10_invert_51 : decode cX10_invert 51 = .ok (.getfield 9, 3) := by decide +kernel
theorem dX10_invert_54 : decode cX10_invert 54 = .ok (.iload 5, 2) := by decide +kernel
theorem dX10_invert_56 : decode cX10_invert 56 = .ok (.isub, 1) := by decide +kernel
theorem dX10_invert_57 : decode cX10_invert 57 = .ok (.iconst 1, 1) := by decide +kernel
theorem dX10_invert_58 : decode cX10_invert 58 = .ok (.isub, 1) := by decide +kernel
theorem dX10_invert_59 : decode cX10_invert 59 = .ok (.iconst 0, 1) := by decide +kernel
theorem dX10_invert_60 : decode cX10_invert 60 = .ok (.iconst 1, 1) := by decide +kernel
theorem dX10_invert_61 : decode cX10_invert 61 = .ok (.invokevirtual 45, 3) := by decide +kernel
theorem dX10_invert_64 : decode cX10_invert 64 = .ok (.lmul, 1) := by decide +kernel
theorem dX10_invert_65 : decode cX10_invert 65 = .ok (.lstore 8, 2) := by decide +kernel
theorem dX10_invert_67 : decode cX10_invert 67 = .ok (.iload 4, 2) := by decide +kernel
theorem dX10_invert_69 : decode cX10_invert 69 = .ok (.iload 5, 2) := by decide +kernel
theorem dX10_invert_71 : decode cX10_invert 71 = .ok (.if_icmp .ne 14, 3) := by decide +kernel
theorem dX10_invert_74 : decode cX10_invert 74 = .ok (.aload_n 3, 1) := by decide +kernel
theorem dX10_invert_75 : decode cX10_invert 75 = .ok (.lload 8, 2) := by decide +kernel
theorem dX10_invert_77 : decode cX10_invert 77 = .ok (.lneg, 1) := by decide +kernel
theorem dX10_invert_78 : decode cX10_invert 78 = .ok (.lload 6, 2) := by decide +kernel
theorem dX10_invert_80 : decode cX10_invert 80 = .ok (.invokevirtual 62, 3) := by decide +kernel
theorem dX10_invert_83 : decode cX10_invert 83 = .ok (.iconst 1, 1) := by decide +kernel
theorem dX10_invert_84 : decode cX10_invert 84 = .ok (.ireturn, 1) := by decide +kernel
theorem dX10_invert_85 : decode cX10_invert 85 = .ok (.aload_n 3, 1) := by decide +kernel
theorem dX10_invert_86 : decode cX10_invert 86 = .ok (.lload 8, 2) := by decide +kernel
theorem dX10_invert_88 : decode cX10_invert 88 = .ok (.lload 6, 2) := by decide +kernel
theorem dX10_invert_90 : decode cX10_invert 90 = .ok (.invokevirtual 62, 3) := by decide +kernel
theorem dX10_invert_93 : decode cX10_invert 93 = .ok (.aload_n 3, 1) := by decide +kernel
theorem dX10_invert_94 : decode cX10_invert 94 = .ok (.aload_n 3, 1) := by decide +kernel
theorem dX10_invert_95 : decode cX10_invert 95 = .ok (.getfield 68, 3) := by decide +kernel
theorem dX10_invert_98 : decode cX10_invert 98 = .ok (.aload_n 3, 1) := by decide +kernel
theorem dX10_invert_99 : decode cX10_invert 99 = .ok (.getfield 72, 3) := by decide +kernel
theorem dX10_invert_102 : decode cX10_invert 102 = .ok (.invokevirtual 75, 3) := by decide +kernel
theorem dX10_invert_105 : decode cX10_invert 105 = .ok (.iload 4, 2) := by decide +kernel
theorem dX10_invert_107 : decode cX10_invert 107 = .ok (.istore 10, 2) := by decide +kernel
theorem dX10_invert_109 : decode cX10_invert 109 = .ok (.iload 10, 2) := by decide +kernel
theorem dX10_invert_111 : decode cX10_invert 111 = .ok (.iload 5, 2) := by decide +kernel
theorem dX10_invert_113 : decode cX10_invert 113 = .ok (.if_icmp .ge 22, 3) := by decide +kernel
theorem dX10_invert_116 : decode cX10_invert 116 = .ok (.aload_n 3, 1) := by decide +kernel
theorem dX10_invert_117 : decode cX10_invert 117 = .ok (.aload_n 0, 1) := by decide +kernel
theorem dX10_invert_118 : decode cX10_invert 118 = .ok (.getfield 19, 3) := by decide +kernel
theorem dX10_invert_121 : decode cX10_invert 121 = .ok (.iload 10, 2) := by decide +kernel
theorem dX10_invert_123 : decode cX10_invert 123 = .ok (.iaload, 1) := by decide +kernel
theorem dX10_invert_124 : decode cX10_invert 124 = .ok (.i2l, 1) := by decide +kernel
theorem dX10_invert_125 : decode cX10_invert 125 = .ok (.lconst 1, 1) := by decide +kernel
theorem dX10_invert_126 : decode cX10_invert 126 = .ok (.invokevirtual 75, 3) := by decide +kernel
theorem dX10_invert_129 : decode cX10_invert 129 = .ok (.iinc 10 1, 3) := by decide +kernel
theorem dX10_invert_132 : decode cX10_invert 132 = .ok (.goto (-23), 3) := by decide +kernel
theorem dX10_invert_135 : decode cX10_invert 135 = .ok (.iconst 1, 1) := by decide +kernel
theorem dX10_invert_136 : decode cX10_invert 136 = .ok (.ireturn, 1) := by decide +kernel
theorem dX10_soundsLike_0 : decode cX10_soundsLike 0 = .ok (.aload_n 0, 1) := by decide +kernel
theorem dX10_soundsLike_1 : decode cX10_soundsLike 1 = .ok (.getfield 9, 3) := by decide +kernel
theorem dX10_soundsLike_4 : decode cX10_soundsLike 4 = .ok (.aload_n 1, 1) := by decide +kernel
theorem dX10_soundsLike_5 : decode cX10_soundsLike 5 = .ok (.getfield 9, 3) := by decide +kernel
theorem dX10_soundsLike_8 : decode cX10_soundsLike 8 = .ok (.if_icmp .eq 5, 3) := by decide +kernel
theorem dX10_soundsLike_11 : decode cX10_soundsLike 11 = .ok (.iconst 0, 1) := by decide +kernel
theorem dX10_soundsLike_12 : decode cX10_soundsLike 12 = .ok (.ireturn, 1) := by decide +kernel
theorem dX10_soundsLike_13 : decode cX10_soundsLike 13 = .ok (.iconst 0, 1) := by decide +kernel
theorem dX10_soundsLike_14 : decode cX10_soundsLike 14 = .ok (.istore_n 2, 1) := by decide +kernel
theorem dX10_soundsLike_15 : decode cX10_soundsLike 15 = .ok (.iload_n 2, 1) := by decide +kernel
theorem dX10_soundsLike_16 : decode cX10_soundsLike 16 = .ok (.aload_n 0, 1) := by decide +kernel
theorem dX10_soundsLike_17 : decode cX10_soundsLike 17 = .ok (.getfield 9, 3) := by decide +kernel
theorem dX10_soundsLike_20 : decode cX10_soundsLike 20 = .ok (.if_icmp .ge 37, 3) := by decide +kernel
theorem dX10_soundsLike_23 : decode cX10_soundsLike 23 = .ok (.aload_n 0, 1) := by decide +kernel
theorem dX10_soundsLike_24 : decode cX10_soundsLike 24 = .ok (.iconst 0, 1) := by decide +kernel
theorem dX10_soundsLike_25 : decode cX10_soundsLike 25 = .ok (.aload_n 0, 1) := by decide +kernel
theorem dX10_soundsLike_26 : decode cX10_soundsLike 26 = .ok (.getfield 9, 3) := by decide +kernel
theorem dX10_soundsLike_29 : decode cX10_soundsLike 29 = .ok (.iload_n 2, 1) := by decide +kernel
theorem dX10_soundsLike_30 : decode cX10_soundsLike 30 = .ok (.iconst 1, 1) := by decide +kernel
theorem dX10_soundsLike_31 : decode cX10_soundsLike 31 = .ok (.invokevirtual 45, 3) := by decide +kernel
theorem dX10_soundsLike_34 : decode cX10_soundsLike 34 = .ok (.aload_n 1, 1) := by decide +kernel
theorem dX10_soundsLike_35 : decode cX10_soundsLike 35 = .ok (.iconst 0, 1) := by decide +kernel
theorem dX10_soundsLike_36 : decode cX10_soundsLike 36 = .ok (.aload_n 0, 1) := by decide +kernel
theorem dX10_soundsLike_37 : decode cX10_soundsLike 37 = .ok (.getfield 9, 3) := by decide +kernel
theorem dX10_soundsLike_40 : decode cX10_soundsLike 40 = .ok (.iload_n 2, 1) := by decide +kernel
theorem dX10_soundsLike_41 : decode cX10_soundsLike 41 = .ok (.iconst 1, 1) := by decide +kernel
theorem dX10_soundsLike_42 : decode cX10_soundsLike 42 = .ok (.invokevirtual 45, 3) := by decide +kernel
theorem dX10_soundsLike_45 : decode cX10_soundsLike 45 = .ok (.lcmp, 1) := by decide +kernel
theorem dX10_soundsLike_46 : decode cX10_soundsLike 46 = .ok (.ifCond .eq 5, 3) := by decide +kernel
theorem dX10_soundsLike_49 : decode cX10_soundsLike 49 = .ok (.iconst 0, 1) := by decide +kernel
theorem dX10_soundsLike_50 : decode cX10_soundsLike 50 = .ok (.ireturn, 1) := by decide +kernel
theorem dX10_soundsLike_51 : decode cX10_soundsLike 51 = .ok (.iinc 2 1, 3) := by decide +kernel
theorem dX10_soundsLike_54 : decode cX10_soundsLike 54 = .ok (.goto (-39), 3) := by decide +kernel
theorem dX10_soundsLike_57 : decode cX10_soundsLike 57 = .ok (.iconst 1, 1) := by decide +kernel
theorem dX10_soundsLike_58 : decode cX10_soundsLike 58 = .ok (.ireturn, 1) := by decide +kernel
theorem dX10_isTurnOf_0 : decode cX10_isTurnOf 0 = .ok (.aload_n 0, 1) := by decide +kernel
theorem dX10_isTurnOf_1 : decode cX10_isTurnOf 1 = .ok (.getfield 9, 3) := by decide +kernel
theorem dX10_isTurnOf_4 : decode cX10_isTurnOf 4 = .ok (.aload_n 1, 1) := by decide +kernel
theorem dX10_isTurnOf_5 : decode cX10_isTurnOf 5 = .ok (.getfield 9, 3) := by decide +kernel
theorem dX10_isTurnOf_8 : decode cX10_isTurnOf 8 = .ok (.if_icmp .eq 5, 3) := by decide +kernel
theorem dX10_isTurnOf_11 : decode cX10_isTurnOf 11 = .ok (.iconst 0, 1) := by decide +kernel
theorem dX10_isTurnOf_12 : decode cX10_isTurnOf 12 = .ok (.ireturn, 1) := by decide +kernel
theorem dX10_isTurnOf_13 : decode cX10_isTurnOf 13 = .ok (.iconst 0, 1) := by decide +kernel
theorem dX10_isTurnOf_14 : decode cX10_isTurnOf 14 = .ok (.istore_n 2, 1) := by decide +kernel
theorem dX10_isTurnOf_15 : decode cX10_isTurnOf 15 = .ok (.iload_n 2, 1) := by decide +kernel
theorem dX10_isTurnOf_16 : decode cX10_isTurnOf 16 = .ok (.aload_n 0, 1) := by decide +kernel
theorem dX10_isTurnOf_17 : decode cX10_isTurnOf 17 = .ok (.getfield 9, 3) := by decide +kernel
theorem dX10_isTurnOf_20 : decode cX10_isTurnOf 20 = .ok (.if_icmp .ge 33, 3) := by decide +kernel
theorem dX10_isTurnOf_23 : decode cX10_isTurnOf 23 = .ok (.aload_n 0, 1) := by decide +kernel
theorem dX10_isTurnOf_24 : decode cX10_isTurnOf 24 = .ok (.getfield 15, 3) := by decide +kernel
theorem dX10_isTurnOf_27 : decode cX10_isTurnOf 27 = .ok (.iload_n 2, 1) := by decide +kernel
theorem dX10_isTurnOf_28 : decode cX10_isTurnOf 28 = .ok (.iaload, 1) := by decide +kernel
theorem dX10_isTurnOf_29 : decode cX10_isTurnOf 29 = .ok (.aload_n 1, 1) := by decide +kernel
theorem dX10_isTurnOf_30 : decode cX10_isTurnOf 30 = .ok (.getfield 15, 3) := by decide +kernel
theorem dX10_isTurnOf_33 : decode cX10_isTurnOf 33 = .ok (.aload_n 0, 1) := by decide +kernel
theorem dX10_isTurnOf_34 : decode cX10_isTurnOf 34 = .ok (.getfield 9, 3) := by decide +kernel
theorem dX10_isTurnOf_37 : decode cX10_isTurnOf 37 = .ok (.iconst 1, 1) := by decide +kernel
theorem dX10_isTurnOf_38 : decode cX10_isTurnOf 38 = .ok (.isub, 1) := by decide +kernel
theorem dX10_isTurnOf_39 : decode cX10_isTurnOf 39 = .ok (.iload_n 2, 1) := by decide +kernel
theorem dX10_isTurnOf_40 : decode cX10_isTurnOf 40 = .ok (.isub, 1) := by decide +kernel
theorem dX10_isTurnOf_41 : decode cX10_isTurnOf 41 = .ok (.iaload, 1) := by decide +kernel
theorem dX10_isTurnOf_42 : decode cX10_isTurnOf 42 = .ok (.if_icmp .eq 5, 3) := by decide +kernel
theorem dX10_isTurnOf_45 : decode cX10_isTurnOf 45 = .ok (.iconst 0, 1) := by decide +kernel
theorem dX10_isTurnOf_46 : decode cX10_isTurnOf 46 = .ok (.ireturn, 1) := by decide +kernel
theorem dX10_isTurnOf_47 : decode cX10_isTurnOf 47 = .ok (.iinc 2 1, 3) := by decide +kernel
theorem dX10_isTurnOf_50 : decode cX10_isTurnOf 50 = .ok (.goto (-35), 3) := by decide +kernel
theorem dX10_isTurnOf_53 : decode cX10_isTurnOf 53 = .ok (.iconst 0, 1) := by decide +kernel
theorem dX10_isTurnOf_54 : decode cX10_isTurnOf 54 = .ok (.istore_n 2, 1) := by decide +kernel
theorem dX10_isTurnOf_55 : decode cX10_isTurnOf 55 = .ok (.iload_n 2, 1) := by decide +kernel
theorem dX10_isTurnOf_56 : decode cX10_isTurnOf 56 = .ok (.aload_n 0, 1) := by decide +kernel
theorem dX10_isTurnOf_57 : decode cX10_isTurnOf 57 = .ok (.getfield 9, 3) := by decide +kernel
theorem dX10_isTurnOf_60 : decode cX10_isTurnOf 60 = .ok (.iconst 1, 1) := by decide +kernel
theorem dX10_isTurnOf_61 : decode cX10_isTurnOf 61 = .ok (.isub, 1) := by decide +kernel
theorem dX10_isTurnOf_62 : decode cX10_isTurnOf 62 = .ok (.if_icmp .ge 33, 3) := by decide +kernel
theorem dX10_isTurnOf_65 : decode cX10_isTurnOf 65 = .ok (.aload_n 0, 1) := by decide +kernel
theorem dX10_isTurnOf_66 : decode cX10_isTurnOf 66 = .ok (.getfield 19, 3) := by decide +kernel
theorem dX10_isTurnOf_69 : decode cX10_isTurnOf 69 = .ok (.iload_n 2, 1) := by decide +kernel
theorem dX10_isTurnOf_70 : decode cX10_isTurnOf 70 = .ok (.iaload, 1) := by decide +kernel
theorem dX10_isTurnOf_71 : decode cX10_isTurnOf 71 = .ok (.aload_n 1, 1) := by decide +kernel
theorem dX10_isTurnOf_72 : decode cX10_isTurnOf 72 = .ok (.getfield 19, 3) := by decide +kernel
theorem dX10_isTurnOf_75 : decode cX10_isTurnOf 75 = .ok (.aload_n 0, 1) := by decide +kernel
theorem dX10_isTurnOf_76 : decode cX10_isTurnOf 76 = .ok (.getfield 9, 3) := by decide +kernel
theorem dX10_isTurnOf_79 : decode cX10_isTurnOf 79 = .ok (.iconst 2, 1) := by decide +kernel
theorem dX10_isTurnOf_80 : decode cX10_isTurnOf 80 = .ok (.isub, 1) := by decide +kernel
theorem dX10_isTurnOf_81 : decode cX10_isTurnOf 81 = .ok (.iload_n 2, 1) := by decide +kernel
theorem dX10_isTurnOf_82 : decode cX10_isTurnOf 82 = .ok (.isub, 1) := by decide +kernel
theorem dX10_isTurnOf_83 : decode cX10_isTurnOf 83 = .ok (.iaload, 1) := by decide +kernel
theorem dX10_isTurnOf_84 : decode cX10_isTurnOf 84 = .ok (.if_icmp .eq 5, 3) := by decide +kernel
theorem dX10_isTurnOf_87 : decode cX10_isTurnOf 87 = .ok (.iconst 0, 1) := by decide +kernel
theorem dX10_isTurnOf_88 : decode cX10_isTurnOf 88 = .ok (.ireturn, 1) := by decide +kernel
theorem dX10_isTurnOf_89 : decode cX10_isTurnOf 89 = .ok (.iinc 2 1, 3) := by decide +kernel
theorem dX10_isTurnOf_92 : decode cX10_isTurnOf 92 = .ok (.goto (-37), 3) := by decide +kernel
theorem dX10_isTurnOf_95 : decode cX10_isTurnOf 95 = .ok (.iconst 1, 1) := by decide +kernel
theorem dX10_isTurnOf_96 : decode cX10_isTurnOf 96 = .ok (.ireturn, 1) := by decide +kernel
theorem dX10_sharedRoots_0 : decode cX10_sharedRoots 0 = .ok (.iconst 0, 1) := by decide +kernel
theorem dX10_sharedRoots_1 : decode cX10_sharedRoots 1 = .ok (.istore_n 3, 1) := by decide +kernel
theorem dX10_sharedRoots_2 : decode cX10_sharedRoots 2 = .ok (.iconst 0, 1) := by decide +kernel
theorem dX10_sharedRoots_3 : decode cX10_sharedRoots 3 = .ok (.istore 4, 2) := by decide +kernel
theorem dX10_sharedRoots_5 : decode cX10_sharedRoots 5 = .ok (.iload 4, 2) := by decide +kernel
theorem dX10_sharedRoots_7 : decode cX10_sharedRoots 7 = .ok (.aload_n 0, 1) := by decide +kernel
theorem dX10_sharedRoots_8 : decode cX10_sharedRoots 8 = .ok (.getfield 9, 3) := by decide +kernel
theorem dX10_sharedRoots_11 : decode cX10_sharedRoots 11 = .ok (.if_icmp .ge 31, 3) := by decide +kernel
theorem dX10_sharedRoots_14 : decode cX10_sharedRoots 14 = .ok (.aload_n 1, 1) := by decide +kernel
theorem dX10_sharedRoots_15 : decode cX10_sharedRoots 15 = .ok (.aload_n 0, 1) := by decide +kernel
theorem dX10_sharedRoots_16 : decode cX10_sharedRoots 16 = .ok (.aload_n 0, 1) := by decide +kernel
theorem dX10_sharedRoots_17 : decode cX10_sharedRoots 17 = .ok (.getfield 9, 3) := by decide +kernel
theorem dX10_sharedRoots_20 : decode cX10_sharedRoots 20 = .ok (.iload 4, 2) := by decide +kernel
theorem dX10_sharedRoots_22 : decode cX10_sharedRoots 22 = .ok (.iload_n 2, 1) := by decide +kernel
theorem dX10_sharedRoots_23 : decode cX10_sharedRoots 23 = .ok (.invokevirtual 78, 3) := by decide +kernel
theorem dX10_sharedRoots_26 : decode cX10_sharedRoots 26 = .ok (.iload_n 2, 1) := by decide +kernel
theorem dX10_sharedRoots_27 : decode cX10_sharedRoots 27 = .ok (.invokevirtual 81, 3) := by decide +kernel
theorem dX10_sharedRoots_30 : decode cX10_sharedRoots 30 = .ok (.ifCond .eq 6, 3) := by decide +kernel
theorem dX10_sharedRoots_33 : decode cX10_sharedRoots 33 = .ok (.iinc 3 1, 3) := by decide +kernel
theorem dX10_sharedRoots_36 : decode cX10_sharedRoots 36 = .ok (.iinc 4 1, 3) := by decide +kernel
theorem dX10_sharedRoots_39 : decode cX10_sharedRoots 39 = .ok (.goto (-34), 3) := by decide +kernel
theorem dX10_sharedRoots_42 : decode cX10_sharedRoots 42 = .ok (.iload_n 3, 1) := by decide +kernel
theorem dX10_sharedRoots_43 : decode cX10_sharedRoots 43 = .ok (.ireturn, 1) := by decide +kernel
theorem dX10_hasRootAt_0 : decode cX10_hasRootAt 0 = .ok (.iconst 0, 1) := by decide +kernel
theorem dX10_hasRootAt_1 : decode cX10_hasRootAt 1 = .ok (.istore_n 3, 1) := by decide +kernel
theorem dX10_hasRootAt_2 : decode cX10_hasRootAt 2 = .ok (.iload_n 3, 1) := by decide +kernel
theorem dX10_hasRootAt_3 : decode cX10_hasRootAt 3 = .ok (.aload_n 0, 1) := by decide +kernel
theorem dX10_hasRootAt_4 : decode cX10_hasRootAt 4 = .ok (.getfield 9, 3) := by decide +kernel
theorem dX10_hasRootAt_7 : decode cX10_hasRootAt 7 = .ok (.if_icmp .ge 25, 3) := by decide +kernel
theorem dX10_hasRootAt_10 : decode cX10_hasRootAt 10 = .ok (.aload_n 0, 1) := by decide +kernel
theorem dX10_hasRootAt_11 : decode cX10_hasRootAt 11 = .ok (.aload_n 0, 1) := by decide +kernel
theorem dX10_hasRootAt_12 : decode cX10_hasRootAt 12 = .ok (.getfield 9, 3) := by decide +kernel
theorem dX10_hasRootAt_15 : decode cX10_hasRootAt 15 = .ok (.iload_n 3, 1) := by decide +kernel
theorem dX10_hasRootAt_16 : decode cX10_hasRootAt 16 = .ok (.iload_n 2, 1) := by decide +kernel
theorem dX10_hasRootAt_17 : decode cX10_hasRootAt 17 = .ok (.invokevirtual 78, 3) := by decide +kernel
theorem dX10_hasRootAt_20 : decode cX10_hasRootAt 20 = .ok (.iload_n 1, 1) := by decide +kernel
theorem dX10_hasRootAt_21 : decode cX10_hasRootAt 21 = .ok (.if_icmp .ne 5, 3) := by decide +kernel
theorem dX10_hasRootAt_24 : decode cX10_hasRootAt 24 = .ok (.iconst 1, 1) := by decide +kernel
theorem dX10_hasRootAt_25 : decode cX10_hasRootAt 25 = .ok (.ireturn, 1) := by decide +kernel
theorem dX10_hasRootAt_26 : decode cX10_hasRootAt 26 = .ok (.iinc 3 1, 3) := by decide +kernel
theorem dX10_hasRootAt_29 : decode cX10_hasRootAt 29 = .ok (.goto (-27), 3) := by decide +kernel
theorem dX10_hasRootAt_32 : decode cX10_hasRootAt 32 = .ok (.iconst 0, 1) := by decide +kernel
theorem dX10_hasRootAt_33 : decode cX10_hasRootAt 33 = .ok (.ireturn, 1) := by decide +kernel
theorem dX10_rootsEnclose_0 : decode cX10_rootsEnclose 0 = .ok (.iconst 0, 1) := by decide +kernel
theorem dX10_rootsEnclose_1 : decode cX10_rootsEnclose 1 = .ok (.istore_n 3, 1) := by decide +kernel
theorem dX10_rootsEnclose_2 : decode cX10_rootsEnclose 2 = .ok (.iload_n 3, 1) := by decide +kernel
theorem dX10_rootsEnclose_3 : decode cX10_rootsEnclose 3 = .ok (.aload_n 1, 1) := by decide +kernel
theorem dX10_rootsEnclose_4 : decode cX10_rootsEnclose 4 = .ok (.getfield 9, 3) := by decide +kernel
theorem dX10_rootsEnclose_7 : decode cX10_rootsEnclose 7 = .ok (.if_icmp .ge 55, 3) := by decide +kernel
theorem dX10_rootsEnclose_10 : decode cX10_rootsEnclose 10 = .ok (.aload_n 1, 1) := by decide +kernel
theorem dX10_rootsEnclose_11 : decode cX10_rootsEnclose 11 = .ok (.aload_n 1, 1) := by decide +kernel
theorem dX10_rootsEnclose_12 : decode cX10_rootsEnclose 12 = .ok (.getfield 9, 3) := by decide +kernel
theorem dX10_rootsEnclose_15 : decode cX10_rootsEnclose 15 = .ok (.iload_n 3, 1) := by decide +kernel
theorem dX10_rootsEnclose_16 : decode cX10_rootsEnclose 16 = .ok (.iload_n 2, 1) := by decide +kernel
theorem dX10_rootsEnclose_17 : decode cX10_rootsEnclose 17 = .ok (.invokevirtual 78, 3) := by decide +kernel
theorem dX10_rootsEnclose_20 : decode cX10_rootsEnclose 20 = .ok (.istore 4, 2) := by decide +kernel
theorem dX10_rootsEnclose_22 : decode cX10_rootsEnclose 22 = .ok (.iload 4, 2) := by decide +kernel
theorem dX10_rootsEnclose_24 : decode cX10_rootsEnclose 24 = .ok (.aload_n 0, 1) := by decide +kernel
theorem dX10_rootsEnclose_25 : decode cX10_rootsEnclose 25 = .ok (.aload_n 0, 1) := by decide +kernel
theorem dX10_rootsEnclose_26 : decode cX10_rootsEnclose 26 = .ok (.getfield 9, 3) := by decide +kernel
theorem dX10_rootsEnclose_29 : decode cX10_rootsEnclose 29 = .ok (.iload_n 3, 1) := by decide +kernel
theorem dX10_rootsEnclose_30 : decode cX10_rootsEnclose 30 = .ok (.iload_n 2, 1) := by decide +kernel
theorem dX10_rootsEnclose_31 : decode cX10_rootsEnclose 31 = .ok (.invokevirtual 78, 3) := by decide +kernel
theorem dX10_rootsEnclose_34 : decode cX10_rootsEnclose 34 = .ok (.if_icmp .lt 20, 3) := by decide +kernel
theorem dX10_rootsEnclose_37 : decode cX10_rootsEnclose 37 = .ok (.iload 4, 2) := by decide +kernel
theorem dX10_rootsEnclose_39 : decode cX10_rootsEnclose 39 = .ok (.aload_n 0, 1) := by decide +kernel
theorem dX10_rootsEnclose_40 : decode cX10_rootsEnclose 40 = .ok (.aload_n 0, 1) := by decide +kernel
theorem dX10_rootsEnclose_41 : decode cX10_rootsEnclose 41 = .ok (.getfield 9, 3) := by decide +kernel
theorem dX10_rootsEnclose_44 : decode cX10_rootsEnclose 44 = .ok (.iload_n 3, 1) := by decide +kernel
theorem dX10_rootsEnclose_45 : decode cX10_rootsEnclose 45 = .ok (.iconst 1, 1) := by decide +kernel
theorem dX10_rootsEnclose_46 : decode cX10_rootsEnclose 46 = .ok (.iadd, 1) := by decide +kernel
theorem dX10_rootsEnclose_47 : decode cX10_rootsEnclose 47 = .ok (.iload_n 2, 1) := by decide +kernel
theorem dX10_rootsEnclose_48 : decode cX10_rootsEnclose 48 = .ok (.invokevirtual 78, 3) := by decide +kernel
theorem dX10_rootsEnclose_51 : decode cX10_rootsEnclose 51 = .ok (.if_icmp .le 5, 3) := by decide +kernel
theorem dX10_rootsEnclose_54 : decode cX10_rootsEnclose 54 = .ok (.iconst 0, 1) := by decide +kernel
theorem dX10_rootsEnclose_55 : decode cX10_rootsEnclose 55 = .ok (.ireturn, 1) := by decide +kernel
theorem dX10_rootsEnclose_56 : decode cX10_rootsEnclose 56 = .ok (.iinc 3 1, 3) := by decide +kernel
theorem dX10_rootsEnclose_59 : decode cX10_rootsEnclose 59 = .ok (.goto (-57), 3) := by decide +kernel
theorem dX10_rootsEnclose_62 : decode cX10_rootsEnclose 62 = .ok (.iconst 1, 1) := by decide +kernel
theorem dX10_rootsEnclose_63 : decode cX10_rootsEnclose 63 = .ok (.ireturn, 1) := by decide +kernel
theorem dX10_leastStep_0 : decode cX10_leastStep 0 = .ok (.ldc 87, 2) := by decide +kernel
theorem dX10_leastStep_2 : decode cX10_leastStep 2 = .ok (.istore_n 2, 1) := by decide +kernel
theorem dX10_leastStep_3 : decode cX10_leastStep 3 = .ok (.iconst 0, 1) := by decide +kernel
theorem dX10_leastStep_4 : decode cX10_leastStep 4 = .ok (.istore_n 3, 1) := by decide +kernel
theorem dX10_leastStep_5 : decode cX10_leastStep 5 = .ok (.iload_n 3, 1) := by decide +kernel
theorem dX10_leastStep_6 : decode cX10_leastStep 6 = .ok (.iconst 1, 1) := by decide +kernel
theorem dX10_leastStep_7 : decode cX10_leastStep 7 = .ok (.iadd, 1) := by decide +kernel
theorem dX10_leastStep_8 : decode cX10_leastStep 8 = .ok (.aload_n 0, 1) := by decide +kernel
theorem dX10_leastStep_9 : decode cX10_leastStep 9 = .ok (.getfield 9, 3) := by decide +kernel
theorem dX10_leastStep_12 : decode cX10_leastStep 12 = .ok (.if_icmp .ge 37, 3) := by decide +kernel
theorem dX10_leastStep_15 : decode cX10_leastStep 15 = .ok (.iload_n 2, 1) := by decide +kernel
theorem dX10_leastStep_16 : decode cX10_leastStep 16 = .ok (.aload_n 0, 1) := by decide +kernel
theorem dX10_leastStep_17 : decode cX10_leastStep 17 = .ok (.aload_n 0, 1) := by decide +kernel
theorem dX10_leastStep_18 : decode cX10_leastStep 18 = .ok (.getfield 9, 3) := by decide +kernel
theorem dX10_leastStep_21 : decode cX10_leastStep 21 = .ok (.iload_n 3, 1) := by decide +kernel
theorem dX10_leastStep_22 : decode cX10_leastStep 22 = .ok (.iconst 1, 1) := by decide +kernel
theorem dX10_leastStep_23 : decode cX10_leastStep 23 = .ok (.iadd, 1) := by decide +kernel
theorem dX10_leastStep_24 : decode cX10_leastStep 24 = .ok (.iload_n 1, 1) := by decide +kernel
theorem dX10_leastStep_25 : decode cX10_leastStep 25 = .ok (.invokevirtual 78, 3) := by decide +kernel
theorem dX10_leastStep_28 : decode cX10_leastStep 28 = .ok (.aload_n 0, 1) := by decide +kernel
theorem dX10_leastStep_29 : decode cX10_leastStep 29 = .ok (.aload_n 0, 1) := by decide +kernel
theorem dX10_leastStep_30 : decode cX10_leastStep 30 = .ok (.getfield 9, 3) := by decide +kernel
theorem dX10_leastStep_33 : decode cX10_leastStep 33 = .ok (.iload_n 3, 1) := by decide +kernel
theorem dX10_leastStep_34 : decode cX10_leastStep 34 = .ok (.iload_n 1, 1) := by decide +kernel
theorem dX10_leastStep_35 : decode cX10_leastStep 35 = .ok (.invokevirtual 78, 3) := by decide +kernel
theorem dX10_leastStep_38 : decode cX10_leastStep 38 = .ok (.isub, 1) := by decide +kernel
theorem dX10_leastStep_39 : decode cX10_leastStep 39 = .ok (.invokestatic 53, 3) := by decide +kernel
theorem dX10_leastStep_42 : decode cX10_leastStep 42 = .ok (.istore_n 2, 1) := by decide +kernel
theorem dX10_leastStep_43 : decode cX10_leastStep 43 = .ok (.iinc 3 1, 3) := by decide +kernel
theorem dX10_leastStep_46 : decode cX10_leastStep 46 = .ok (.goto (-41), 3) := by decide +kernel
theorem dX10_leastStep_49 : decode cX10_leastStep 49 = .ok (.iload_n 2, 1) := by decide +kernel
theorem dX10_leastStep_50 : decode cX10_leastStep 50 = .ok (.ireturn, 1) := by decide +kernel
theorem dX10_alter_0 : decode cX10_alter 0 = .ok (.iload_n 1, 1) := by decide +kernel
theorem dX10_alter_1 : decode cX10_alter 1 = .ok (.ifCond .ne 29, 3) := by decide +kernel
theorem dX10_alter_4 : decode cX10_alter 4 = .ok (.aload_n 0, 1) := by decide +kernel
theorem dX10_alter_5 : decode cX10_alter 5 = .ok (.getfield 15, 3) := by decide +kernel
theorem dX10_alter_8 : decode cX10_alter 8 = .ok (.aload_n 0, 1) := by decide +kernel
theorem dX10_alter_9 : decode cX10_alter 9 = .ok (.getfield 9, 3) := by decide +kernel
theorem dX10_alter_12 : decode cX10_alter 12 = .ok (.invokestatic 88, 3) := by decide +kernel
theorem dX10_alter_15 : decode cX10_alter 15 = .ok (.aload_n 0, 1) := by decide +kernel
theorem dX10_alter_16 : decode cX10_alter 16 = .ok (.getfield 19, 3) := by decide +kernel
theorem dX10_alter_19 : decode cX10_alter 19 = .ok (.aload_n 0, 1) := by decide +kernel
theorem dX10_alter_20 : decode cX10_alter 20 = .ok (.getfield 9, 3) := by decide +kernel
theorem dX10_alter_23 : decode cX10_alter 23 = .ok (.iconst 1, 1) := by decide +kernel
theorem dX10_alter_24 : decode cX10_alter 24 = .ok (.isub, 1) := by decide +kernel
theorem dX10_alter_25 : decode cX10_alter 25 = .ok (.invokestatic 88, 3) := by decide +kernel
theorem dX10_alter_28 : decode cX10_alter 28 = .ok (.iconst 1, 1) := by decide +kernel
theorem dX10_alter_29 : decode cX10_alter 29 = .ok (.ireturn, 1) := by decide +kernel
theorem dX10_alter_30 : decode cX10_alter 30 = .ok (.iload_n 1, 1) := by decide +kernel
theorem dX10_alter_31 : decode cX10_alter 31 = .ok (.iconst 1, 1) := by decide +kernel
theorem dX10_alter_32 : decode cX10_alter 32 = .ok (.if_icmp .eq 8, 3) := by decide +kernel
theorem dX10_alter_35 : decode cX10_alter 35 = .ok (.iload_n 1, 1) := by decide +kernel
theorem dX10_alter_36 : decode cX10_alter 36 = .ok (.iconst 2, 1) := by decide +kernel
theorem dX10_alter_37 : decode cX10_alter 37 = .ok (.if_icmp .ne 18, 3) := by decide +kernel
theorem dX10_alter_40 : decode cX10_alter 40 = .ok (.aload_n 0, 1) := by decide +kernel
theorem dX10_alter_41 : decode cX10_alter 41 = .ok (.iload_n 1, 1) := by decide +kernel
theorem dX10_alter_42 : decode cX10_alter 42 = .ok (.iconst 1, 1) := by decide +kernel
theorem dX10_alter_43 : decode cX10_alter 43 = .ok (.if_icmp .ne 7, 3) := by decide +kernel
theorem dX10_alter_46 : decode cX10_alter 46 = .ok (.iconst 1, 1) := by decide +kernel
theorem dX10_alter_47 : decode cX10_alter 47 = .ok (.goto 4, 3) := by decide +kernel
theorem dX10_alter_50 : decode cX10_alter 50 = .ok (.iconst (-1), 1) := by decide +kernel
theorem dX10_alter_51 : decode cX10_alter 51 = .ok (.invokevirtual 92, 3) := by decide +kernel
theorem dX10_alter_54 : decode cX10_alter 54 = .ok (.ireturn, 1) := by decide +kernel
theorem dX10_alter_55 : decode cX10_alter 55 = .ok (.aload_n 0, 1) := by decide +kernel
theorem dX10_alter_56 : decode cX10_alter 56 = .ok (.getfield 9, 3) := by decide +kernel
theorem dX10_alter_59 : decode cX10_alter 59 = .ok (.iconst 1, 1) := by decide +kernel
theorem dX10_alter_60 : decode cX10_alter 60 = .ok (.if_icmp .ne 5, 3) := by decide +kernel
theorem dX10_alter_63 : decode cX10_alter 63 = .ok (.iconst 0, 1) := by decide +kernel
theorem dX10_alter_64 : decode cX10_alter 64 = .ok (.ireturn, 1) := by decide +kernel
theorem dX10_alter_65 : decode cX10_alter 65 = .ok (.iload_n 1, 1) := by decide +kernel
theorem dX10_alter_66 : decode cX10_alter 66 = .ok (.iconst 4, 1) := by decide +kernel
theorem dX10_alter_67 : decode cX10_alter 67 = .ok (.if_icmp .ne 17, 3) := by decide +kernel
theorem dX10_alter_70 : decode cX10_alter 70 = .ok (.aload_n 0, 1) := by decide +kernel
theorem dX10_alter_71 : decode cX10_alter 71 = .ok (.getfield 15, 3) := by decide +kernel
theorem dX10_alter_74 : decode cX10_alter 74 = .ok (.invokestatic 95, 3) := by decide +kernel
theorem dX10_alter_77 : decode cX10_alter 77 = .ok (.aload_n 0, 1) := by decide +kernel
theorem dX10_alter_78 : decode cX10_alter 78 = .ok (.getfield 19, 3) := by decide +kernel
theorem dX10_alter_81 : decode cX10_alter 81 = .ok (.invokestatic 95, 3) := by decide +kernel
theorem dX10_alter_84 : decode cX10_alter 84 = .ok (.aload_n 0, 1) := by decide +kernel
theorem dX10_alter_85 : decode cX10_alter 85 = .ok (.dup, 1) := by decide +kernel
theorem dX10_alter_86 : decode cX10_alter 86 = .ok (.getfield 9, 3) := by decide +kernel
theorem dX10_alter_89 : decode cX10_alter 89 = .ok (.iconst 1, 1) := by decide +kernel
theorem dX10_alter_90 : decode cX10_alter 90 = .ok (.isub, 1) := by decide +kernel
theorem dX10_alter_91 : decode cX10_alter 91 = .ok (.putfield 9, 3) := by decide +kernel
theorem dX10_alter_94 : decode cX10_alter 94 = .ok (.iconst 1, 1) := by decide +kernel
theorem dX10_alter_95 : decode cX10_alter 95 = .ok (.ireturn, 1) := by decide +kernel
theorem dX10_turnRound_0 : decode cX10_turnRound 0 = .ok (.iconst 0, 1) := by decide +kernel
theorem dX10_turnRound_1 : decode cX10_turnRound 1 = .ok (.istore_n 2, 1) := by decide +kernel
theorem dX10_turnRound_2 : decode cX10_turnRound 2 = .ok (.iload_n 1, 1) := by decide +kernel
theorem dX10_turnRound_3 : decode cX10_turnRound 3 = .ok (.iconst 1, 1) := by decide +kernel
theorem dX10_turnRound_4 : decode cX10_turnRound 4 = .ok (.isub, 1) := by decide +kernel
theorem dX10_turnRound_5 : decode cX10_turnRound 5 = .ok (.istore_n 3, 1) := by decide +kernel
theorem dX10_turnRound_6 : decode cX10_turnRound 6 = .ok (.iload_n 2, 1) := by decide +kernel
theorem dX10_turnRound_7 : decode cX10_turnRound 7 = .ok (.iload_n 3, 1) := by decide +kernel
theorem dX10_turnRound_8 : decode cX10_turnRound 8 = .ok (.if_icmp .ge 28, 3) := by decide +kernel
theorem dX10_turnRound_11 : decode cX10_turnRound 11 = .ok (.aload_n 0, 1) := by decide +kernel
theorem dX10_turnRound_12 : decode cX10_turnRound 12 = .ok (.iload_n 2, 1) := by decide +kernel
theorem dX10_turnRound_13 : decode cX10_turnRound 13 = .ok (.iaload, 1) := by decide +kernel
theorem dX10_turnRound_14 : decode cX10_turnRound 14 = .ok (.istore 4, 2) := by decide +kernel
theorem dX10_turnRound_16 : decode cX10_turnRound 16 = .ok (.aload_n 0, 1) := by decide +kernel
theorem dX10_turnRound_17 : decode cX10_turnRound 17 = .ok (.iload_n 2, 1) := by decide +kernel
theorem dX10_turnRound_18 : decode cX10_turnRound 18 = .ok (.aload_n 0, 1) := by decide +kernel
theorem dX10_turnRound_19 : decode cX10_turnRound 19 = .ok (.iload_n 3, 1) := by decide +kernel
theorem dX10_turnRound_20 : decode cX10_turnRound 20 = .ok (.iaload, 1) := by decide +kernel
theorem dX10_turnRound_21 : decode cX10_turnRound 21 = .ok (.iastore, 1) := by decide +kernel
theorem dX10_turnRound_22 : decode cX10_turnRound 22 = .ok (.aload_n 0, 1) := by decide +kernel
theorem dX10_turnRound_23 : decode cX10_turnRound 23 = .ok (.iload_n 3, 1) := by decide +kernel
theorem dX10_turnRound_24 : decode cX10_turnRound 24 = .ok (.iload 4, 2) := by decide +kernel
theorem dX10_turnRound_26 : decode cX10_turnRound 26 = .ok (.iastore, 1) := by decide +kernel
theorem dX10_turnRound_27 : decode cX10_turnRound 27 = .ok (.iinc 2 1, 3) := by decide +kernel
theorem dX10_turnRound_30 : decode cX10_turnRound 30 = .ok (.iinc 3 (-1), 3) := by decide +kernel
theorem dX10_turnRound_33 : decode cX10_turnRound 33 = .ok (.goto (-27), 3) := by decide +kernel
theorem dX10_turnRound_36 : decode cX10_turnRound 36 = .ok (.return_, 1) := by decide +kernel
theorem dX10_raise_0 : decode cX10_raise 0 = .ok (.iconst 0, 1) := by decide +kernel
theorem dX10_raise_1 : decode cX10_raise 1 = .ok (.istore_n 2, 1) := by decide +kernel
theorem dX10_raise_2 : decode cX10_raise 2 = .ok (.iload_n 2, 1) := by decide +kernel
theorem dX10_raise_3 : decode cX10_raise 3 = .ok (.aload_n 0, 1) := by decide +kernel
theorem dX10_raise_4 : decode cX10_raise 4 = .ok (.getfield 9, 3) := by decide +kernel
theorem dX10_raise_7 : decode cX10_raise 7 = .ok (.if_icmp .ge 26, 3) := by decide +kernel
theorem dX10_raise_10 : decode cX10_raise 10 = .ok (.iconst 1, 1) := by decide +kernel
theorem dX10_raise_11 : decode cX10_raise 11 = .ok (.aload_n 0, 1) := by decide +kernel
theorem dX10_raise_12 : decode cX10_raise 12 = .ok (.getfield 15, 3) := by decide +kernel
theorem dX10_raise_15 : decode cX10_raise 15 = .ok (.iload_n 2, 1) := by decide +kernel
theorem dX10_raise_16 : decode cX10_raise 16 = .ok (.iaload, 1) := by decide +kernel
theorem dX10_raise_17 : decode cX10_raise 17 = .ok (.iload_n 1, 1) := by decide +kernel
theorem dX10_raise_18 : decode cX10_raise 18 = .ok (.iadd, 1) := by decide +kernel
theorem dX10_raise_19 : decode cX10_raise 19 = .ok (.invokestatic 99, 3) := by decide +kernel
theorem dX10_raise_22 : decode cX10_raise 22 = .ok (.ifCond .ne 5, 3) := by decide +kernel
theorem dX10_raise_25 : decode cX10_raise 25 = .ok (.iconst 0, 1) := by decide +kernel
theorem dX10_raise_26 : decode cX10_raise 26 = .ok (.ireturn, 1) := by decide +kernel
theorem dX10_raise_27 : decode cX10_raise 27 = .ok (.iinc 2 1, 3) := by decide +kernel
theorem dX10_raise_30 : decode cX10_raise 30 = .ok (.goto (-28), 3) := by decide +kernel
theorem dX10_raise_33 : decode cX10_raise 33 = .ok (.iconst 0, 1) := by decide +kernel
theorem dX10_raise_34 : decode cX10_raise 34 = .ok (.istore_n 2, 1) := by decide +kernel
theorem dX10_raise_35 : decode cX10_raise 35 = .ok (.iload_n 2, 1) := by decide +kernel
theorem dX10_raise_36 : decode cX10_raise 36 = .ok (.aload_n 0, 1) := by decide +kernel
theorem dX10_raise_37 : decode cX10_raise 37 = .ok (.getfield 9, 3) := by decide +kernel
theorem dX10_raise_40 : decode cX10_raise 40 = .ok (.if_icmp .ge 19, 3) := by decide +kernel
theorem dX10_raise_43 : decode cX10_raise 43 = .ok (.aload_n 0, 1) := by decide +kernel
theorem dX10_raise_44 : decode cX10_raise 44 = .ok (.getfield 15, 3) := by decide +kernel
theorem dX10_raise_47 : decode cX10_raise 47 = .ok (.iload_n 2, 1) := by decide +kernel
theorem dX10_raise_48 : decode cX10_raise 48 = .ok (.dup2, 1) := by decide +kernel
theorem dX10_raise_49 : decode cX10_raise 49 = .ok (.iaload, 1) := by decide +kernel
theorem dX10_raise_50 : decode cX10_raise 50 = .ok (.iload_n 1, 1) := by decide +kernel
theorem dX10_raise_51 : decode cX10_raise 51 = .ok (.iadd, 1) := by decide +kernel
theorem dX10_raise_52 : decode cX10_raise 52 = .ok (.iastore, 1) := by decide +kernel
theorem dX10_raise_53 : decode cX10_raise 53 = .ok (.iinc 2 1, 3) := by decide +kernel
theorem dX10_raise_56 : decode cX10_raise 56 = .ok (.goto (-21), 3) := by decide +kernel
theorem dX10_raise_59 : decode cX10_raise 59 = .ok (.iconst 1, 1) := by decide +kernel
theorem dX10_raise_60 : decode cX10_raise 60 = .ok (.ireturn, 1) := by decide +kernel
theorem dX10_dropFirst_0 : decode cX10_dropFirst 0 = .ok (.iconst 0, 1) := by decide +kernel
theorem dX10_dropFirst_1 : decode cX10_dropFirst 1 = .ok (.istore_n 1, 1) := by decide +kernel
theorem dX10_dropFirst_2 : decode cX10_dropFirst 2 = .ok (.iload_n 1, 1) := by decide +kernel
theorem dX10_dropFirst_3 : decode cX10_dropFirst 3 = .ok (.iconst 1, 1) := by decide +kernel
theorem dX10_dropFirst_4 : decode cX10_dropFirst 4 = .ok (.iadd, 1) := by decide +kernel
theorem dX10_dropFirst_5 : decode cX10_dropFirst 5 = .ok (.aload_n 0, 1) := by decide +kernel
theorem dX10_dropFirst_6 : decode cX10_dropFirst 6 = .ok (.arraylength, 1) := by decide +kernel
theorem dX10_dropFirst_7 : decode cX10_dropFirst 7 = .ok (.if_icmp .ge 17, 3) := by decide +kernel
theorem dX10_dropFirst_10 : decode cX10_dropFirst 10 = .ok (.aload_n 0, 1) := by decide +kernel
theorem dX10_dropFirst_11 : decode cX10_dropFirst 11 = .ok (.iload_n 1, 1) := by decide +kernel
theorem dX10_dropFirst_12 : decode cX10_dropFirst 12 = .ok (.aload_n 0, 1) := by decide +kernel
theorem dX10_dropFirst_13 : decode cX10_dropFirst 13 = .ok (.iload_n 1, 1) := by decide +kernel
theorem dX10_dropFirst_14 : decode cX10_dropFirst 14 = .ok (.iconst 1, 1) := by decide +kernel
theorem dX10_dropFirst_15 : decode cX10_dropFirst 15 = .ok (.iadd, 1) := by decide +kernel
theorem dX10_dropFirst_16 : decode cX10_dropFirst 16 = .ok (.iaload, 1) := by decide +kernel
theorem dX10_dropFirst_17 : decode cX10_dropFirst 17 = .ok (.iastore, 1) := by decide +kernel
theorem dX10_dropFirst_18 : decode cX10_dropFirst 18 = .ok (.iinc 1 1, 3) := by decide +kernel
theorem dX10_dropFirst_21 : decode cX10_dropFirst 21 = .ok (.goto (-19), 3) := by decide +kernel
theorem dX10_dropFirst_24 : decode cX10_dropFirst 24 = .ok (.return_, 1) := by decide +kernel
theorem dX10_append_0 : decode cX10_append 0 = .ok (.aload_n 1, 1) := by decide +kernel
theorem dX10_append_1 : decode cX10_append 1 = .ok (.getfield 9, 3) := by decide +kernel
theorem dX10_append_4 : decode cX10_append 4 = .ok (.istore_n 3, 1) := by decide +kernel
theorem dX10_append_5 : decode cX10_append 5 = .ok (.aload_n 0, 1) := by decide +kernel
theorem dX10_append_6 : decode cX10_append 6 = .ok (.getfield 19, 3) := by decide +kernel
theorem dX10_append_9 : decode cX10_append 9 = .ok (.aload_n 0, 1) := by decide +kernel
theorem dX10_append_10 : decode cX10_append 10 = .ok (.getfield 9, 3) := by decide +kernel
theorem dX10_append_13 : decode cX10_append 13 = .ok (.iconst 1, 1) := by decide +kernel
theorem dX10_append_14 : decode cX10_append 14 = .ok (.isub, 1) := by decide +kernel
theorem dX10_append_15 : decode cX10_append 15 = .ok (.iload_n 2, 1) := by decide +kernel
theorem dX10_append_16 : decode cX10_append 16 = .ok (.iastore, 1) := by decide +kernel
theorem dX10_append_17 : decode cX10_append 17 = .ok (.iconst 0, 1) := by decide +kernel
theorem dX10_append_18 : decode cX10_append 18 = .ok (.istore 4, 2) := by decide +kernel
theorem dX10_append_20 : decode cX10_append 20 = .ok (.iload 4, 2) := by decide +kernel
theorem dX10_append_22 : decode cX10_append 22 = .ok (.iload_n 3, 1) := by decide +kernel
theorem dX10_append_23 : decode cX10_append 23 = .ok (.if_icmp .ge 28, 3) := by decide +kernel
theorem dX10_append_26 : decode cX10_append 26 = .ok (.aload_n 0, 1) := by decide +kernel
theorem dX10_append_27 : decode cX10_append 27 = .ok (.getfield 15, 3) := by decide +kernel
theorem dX10_append_30 : decode cX10_append 30 = .ok (.aload_n 0, 1) := by decide +kernel
theorem dX10_append_31 : decode cX10_append 31 = .ok (.getfield 9, 3) := by decide +kernel
theorem dX10_append_34 : decode cX10_append 34 = .ok (.iload 4, 2) := by decide +kernel
theorem dX10_append_36 : decode cX10_append 36 = .ok (.iadd, 1) := by decide +kernel
theorem dX10_append_37 : decode cX10_append 37 = .ok (.aload_n 1, 1) := by decide +kernel
theorem dX10_append_38 : decode cX10_append 38 = .ok (.getfield 15, 3) := by decide +kernel
theorem dX10_append_41 : decode cX10_append 41 = .ok (.iload 4, 2) := by decide +kernel
theorem dX10_append_43 : decode cX10_append 43 = .ok (.iaload, 1) := by decide +kernel
theorem dX10_append_44 : decode cX10_append 44 = .ok (.iastore, 1) := by decide +kernel
theorem dX10_append_45 : decode cX10_append 45 = .ok (.iinc 4 1, 3) := by decide +kernel
theorem dX10_append_48 : decode cX10_append 48 = .ok (.goto (-28), 3) := by decide +kernel
theorem dX10_append_51 : decode cX10_append 51 = .ok (.iconst 0, 1) := by decide +kernel
theorem dX10_append_52 : decode cX10_append 52 = .ok (.istore 4, 2) := by decide +kernel
theorem dX10_append_54 : decode cX10_append 54 = .ok (.iload 4, 2) := by decide +kernel
theorem dX10_append_56 : decode cX10_append 56 = .ok (.iload_n 3, 1) := by decide +kernel
theorem dX10_append_57 : decode cX10_append 57 = .ok (.iconst 1, 1) := by decide +kernel
theorem dX10_append_58 : decode cX10_append 58 = .ok (.isub, 1) := by decide +kernel
theorem dX10_append_59 : decode cX10_append 59 = .ok (.if_icmp .ge 28, 3) := by decide +kernel
theorem dX10_append_62 : decode cX10_append 62 = .ok (.aload_n 0, 1) := by decide +kernel
theorem dX10_append_63 : decode cX10_append 63 = .ok (.getfield 19, 3) := by decide +kernel
theorem dX10_append_66 : decode cX10_append 66 = .ok (.aload_n 0, 1) := by decide +kernel
theorem dX10_append_67 : decode cX10_append 67 = .ok (.getfield 9, 3) := by decide +kernel
theorem dX10_append_70 : decode cX10_append 70 = .ok (.iload 4, 2) := by decide +kernel
theorem dX10_append_72 : decode cX10_append 72 = .ok (.iadd, 1) := by decide +kernel
theorem dX10_append_73 : decode cX10_append 73 = .ok (.aload_n 1, 1) := by decide +kernel
theorem dX10_append_74 : decode cX10_append 74 = .ok (.getfield 19, 3) := by decide +kernel
theorem dX10_append_77 : decode cX10_append 77 = .ok (.iload 4, 2) := by decide +kernel
theorem dX10_append_79 : decode cX10_append 79 = .ok (.iaload, 1) := by decide +kernel
theorem dX10_append_80 : decode cX10_append 80 = .ok (.iastore, 1) := by decide +kernel
theorem dX10_append_81 : decode cX10_append 81 = .ok (.iinc 4 1, 3) := by decide +kernel
theorem dX10_append_84 : decode cX10_append 84 = .ok (.goto (-30), 3) := by decide +kernel
theorem dX10_append_87 : decode cX10_append 87 = .ok (.aload_n 0, 1) := by decide +kernel
theorem dX10_append_88 : decode cX10_append 88 = .ok (.dup, 1) := by decide +kernel
theorem dX10_append_89 : decode cX10_append 89 = .ok (.getfield 9, 3) := by decide +kernel
theorem dX10_append_92 : decode cX10_append 92 = .ok (.iload_n 3, 1) := by decide +kernel
theorem dX10_append_93 : decode cX10_append 93 = .ok (.iadd, 1) := by decide +kernel
theorem dX10_append_94 : decode cX10_append 94 = .ok (.putfield 9, 3) := by decide +kernel
theorem dX10_append_97 : decode cX10_append 97 = .ok (.return_, 1) := by decide +kernel
theorem dX10_draw_0 : decode cX10_draw 0 = .ok (.aload_n 0, 1) := by decide +kernel
theorem dX10_draw_1 : decode cX10_draw 1 = .ok (.iload_n 1, 1) := by decide +kernel
theorem dX10_draw_2 : decode cX10_draw 2 = .ok (.putfield 9, 3) := by decide +kernel
theorem dX10_draw_5 : decode cX10_draw 5 = .ok (.iload_n 2, 1) := by decide +kernel
theorem dX10_draw_6 : decode cX10_draw 6 = .ok (.ldc 103, 2) := by decide +kernel
theorem dX10_draw_8 : decode cX10_draw 8 = .ok (.iand, 1) := by decide +kernel
theorem dX10_draw_9 : decode cX10_draw 9 = .ok (.istore_n 3, 1) := by decide +kernel
theorem dX10_draw_10 : decode cX10_draw 10 = .ok (.iconst 0, 1) := by decide +kernel
theorem dX10_draw_11 : decode cX10_draw 11 = .ok (.istore 4, 2) := by decide +kernel
theorem dX10_draw_13 : decode cX10_draw 13 = .ok (.iload 4, 2) := by decide +kernel
theorem dX10_draw_15 : decode cX10_draw 15 = .ok (.iload_n 1, 1) := by decide +kernel
theorem dX10_draw_16 : decode cX10_draw 16 = .ok (.if_icmp .ge 30, 3) := by decide +kernel
theorem dX10_draw_19 : decode cX10_draw 19 = .ok (.iload_n 3, 1) := by decide +kernel
theorem dX10_draw_20 : decode cX10_draw 20 = .ok (.invokestatic 104, 3) := by decide +kernel
theorem dX10_draw_23 : decode cX10_draw 23 = .ok (.istore_n 3, 1) := by decide +kernel
theorem dX10_draw_24 : decode cX10_draw 24 = .ok (.aload_n 0, 1) := by decide +kernel
theorem dX10_draw_25 : decode cX10_draw 25 = .ok (.getfield 15, 3) := by decide +kernel
theorem dX10_draw_28 : decode cX10_draw 28 = .ok (.iload 4, 2) := by decide +kernel
theorem dX10_draw_30 : decode cX10_draw 30 = .ok (.iload_n 3, 1) := by decide +kernel
theorem dX10_draw_31 : decode cX10_draw 31 = .ok (.iconst 4, 1) := by decide +kernel
theorem dX10_draw_32 : decode cX10_draw 32 = .ok (.idiv, 1) := by decide +kernel
theorem dX10_draw_33 : decode cX10_draw 33 = .ok (.bipush 13, 2) := by decide +kernel
theorem dX10_draw_35 : decode cX10_draw 35 = .ok (.irem, 1) := by decide +kernel
theorem dX10_draw_36 : decode cX10_draw 36 = .ok (.bipush 6, 2) := by decide +kernel
theorem dX10_draw_38 : decode cX10_draw 38 = .ok (.isub, 1) := by decide +kernel
theorem dX10_draw_39 : decode cX10_draw 39 = .ok (.iastore, 1) := by decide +kernel
theorem dX10_draw_40 : decode cX10_draw 40 = .ok (.iinc 4 1, 3) := by decide +kernel
theorem dX10_draw_43 : decode cX10_draw 43 = .ok (.goto (-30), 3) := by decide +kernel
theorem dX10_draw_46 : decode cX10_draw 46 = .ok (.iconst 0, 1) := by decide +kernel
theorem dX10_draw_47 : decode cX10_draw 47 = .ok (.istore 4, 2) := by decide +kernel
theorem dX10_draw_49 : decode cX10_draw 49 = .ok (.iload 4, 2) := by decide +kernel
theorem dX10_draw_51 : decode cX10_draw 51 = .ok (.iload_n 1, 1) := by decide +kernel
theorem dX10_draw_52 : decode cX10_draw 52 = .ok (.iconst 1, 1) := by decide +kernel
theorem dX10_draw_53 : decode cX10_draw 53 = .ok (.isub, 1) := by decide +kernel
theorem dX10_draw_54 : decode cX10_draw 54 = .ok (.if_icmp .ge 29, 3) := by decide +kernel
theorem dX10_draw_57 : decode cX10_draw 57 = .ok (.iload_n 3, 1) := by decide +kernel
theorem dX10_draw_58 : decode cX10_draw 58 = .ok (.invokestatic 104, 3) := by decide +kernel
theorem dX10_draw_61 : decode cX10_draw 61 = .ok (.istore_n 3, 1) := by decide +kernel
theorem dX10_draw_62 : decode cX10_draw 62 = .ok (.aload_n 0, 1) := by decide +kernel
theorem dX10_draw_63 : decode cX10_draw 63 = .ok (.getfield 19, 3) := by decide +kernel
theorem dX10_draw_66 : decode cX10_draw 66 = .ok (.iload 4, 2) := by decide +kernel
theorem dX10_draw_68 : decode cX10_draw 68 = .ok (.iload_n 3, 1) := by decide +kernel
theorem dX10_draw_69 : decode cX10_draw 69 = .ok (.iconst 4, 1) := by decide +kernel
theorem dX10_draw_70 : decode cX10_draw 70 = .ok (.idiv, 1) := by decide +kernel
theorem dX10_draw_71 : decode cX10_draw 71 = .ok (.bipush 36, 2) := by decide +kernel
theorem dX10_draw_73 : decode cX10_draw 73 = .ok (.irem, 1) := by decide +kernel
theorem dX10_draw_74 : decode cX10_draw 74 = .ok (.iconst 1, 1) := by decide +kernel
theorem dX10_draw_75 : decode cX10_draw 75 = .ok (.iadd, 1) := by decide +kernel
theorem dX10_draw_76 : decode cX10_draw 76 = .ok (.iastore, 1) := by decide +kernel
theorem dX10_draw_77 : decode cX10_draw 77 = .ok (.iinc 4 1, 3) := by decide +kernel
theorem dX10_draw_80 : decode cX10_draw 80 = .ok (.goto (-31), 3) := by decide +kernel
theorem dX10_draw_83 : decode cX10_draw 83 = .ok (.iload_n 3, 1) := by decide +kernel
theorem dX10_draw_84 : decode cX10_draw 84 = .ok (.ireturn, 1) := by decide +kernel
theorem dX10_drawnBehind_0 : decode cX10_drawnBehind 0 = .ok (.sipush 25173, 3) := by decide +kernel
theorem dX10_drawnBehind_3 : decode cX10_drawnBehind 3 = .ok (.iload_n 0, 1) := by decide +kernel
theorem dX10_drawnBehind_4 : decode cX10_drawnBehind 4 = .ok (.imul, 1) := by decide +kernel
theorem dX10_drawnBehind_5 : decode cX10_drawnBehind 5 = .ok (.sipush 13849, 3) := by decide +kernel
theorem dX10_drawnBehind_8 : decode cX10_drawnBehind 8 = .ok (.iadd, 1) := by decide +kernel
theorem dX10_drawnBehind_9 : decode cX10_drawnBehind 9 = .ok (.ldc 103, 2) := by decide +kernel
theorem dX10_drawnBehind_11 : decode cX10_drawnBehind 11 = .ok (.iand, 1) := by decide +kernel
theorem dX10_drawnBehind_12 : decode cX10_drawnBehind 12 = .ok (.ireturn, 1) := by decide +kernel
theorem dX11_init_0 : decode cX11_init 0 = .ok (.aload_n 0, 1) := by decide +kernel
theorem dX11_init_1 : decode cX11_init 1 = .ok (.invokespecial 3, 3) := by decide +kernel
theorem dX11_init_4 : decode cX11_init 4 = .ok (.aload_n 0, 1) := by decide +kernel
theorem dX11_init_5 : decode cX11_init 5 = .ok (.new 9, 3) := by decide +kernel
theorem dX11_init_8 : decode cX11_init 8 = .ok (.dup, 1) := by decide +kernel
theorem dX11_init_9 : decode cX11_init 9 = .ok (.invokespecial 11, 3) := by decide +kernel
theorem dX11_init_12 : decode cX11_init 12 = .ok (.putfield 12, 3) := by decide +kernel
theorem dX11_init_15 : decode cX11_init 15 = .ok (.aload_n 0, 1) := by decide +kernel
theorem dX11_init_16 : decode cX11_init 16 = .ok (.new 18, 3) := by decide +kernel
theorem dX11_init_19 : decode cX11_init 19 = .ok (.dup, 1) := by decide +kernel
theorem dX11_init_20 : decode cX11_init 20 = .ok (.invokespecial 20, 3) := by decide +kernel
theorem dX11_init_23 : decode cX11_init 23 = .ok (.putfield 21, 3) := by decide +kernel
theorem dX11_init_26 : decode cX11_init 26 = .ok (.aload_n 0, 1) := by decide +kernel
theorem dX11_init_27 : decode cX11_init 27 = .ok (.new 25, 3) := by decide +kernel
theorem dX11_init_30 : decode cX11_init 30 = .ok (.dup, 1) := by decide +kernel
theorem dX11_init_31 : decode cX11_init 31 = .ok (.invokespecial 27, 3) := by decide +kernel
theorem dX11_init_34 : decode cX11_init 34 = .ok (.putfield 28, 3) := by decide +kernel
theorem dX11_init_37 : decode cX11_init 37 = .ok (.aload_n 0, 1) := by decide +kernel
theorem dX11_init_38 : decode cX11_init 38 = .ok (.new 32, 3) := by decide +kernel
theorem dX11_init_41 : decode cX11_init 41 = .ok (.dup, 1) := by decide +kernel
theorem dX11_init_42 : decode cX11_init 42 = .ok (.invokespecial 34, 3) := by decide +kernel
theorem dX11_init_45 : decode cX11_init 45 = .ok (.putfield 35, 3) := by decide +kernel
theorem dX11_init_48 : decode cX11_init 48 = .ok (.aload_n 0, 1) := by decide +kernel
theorem dX11_init_49 : decode cX11_init 49 = .ok (.bipush 8, 2) := by decide +kernel
theorem dX11_init_51 : decode cX11_init 51 = .ok (.anewarray 32, 3) := by decide +kernel
theorem dX11_init_54 : decode cX11_init 54 = .ok (.putfield 39, 3) := by decide +kernel
theorem dX11_init_57 : decode cX11_init 57 = .ok (.aload_n 0, 1) := by decide +kernel
theorem dX11_init_58 : decode cX11_init 58 = .ok (.iconst 0, 1) := by decide +kernel
theorem dX11_init_59 : decode cX11_init 59 = .ok (.putfield 43, 3) := by decide +kernel
theorem dX11_init_62 : decode cX11_init 62 = .ok (.aload_n 0, 1) := by decide +kernel
theorem dX11_init_63 : decode cX11_init 63 = .ok (.new 47, 3) := by decide +kernel
theorem dX11_init_66 : decode cX11_init 66 = .ok (.dup, 1) := by decide +kernel
theorem dX11_init_67 : decode cX11_init 67 = .ok (.invokespecial 49, 3) := by decide +kernel
theorem dX11_init_70 : decode cX11_init 70 = .ok (.putfield 50, 3) := by decide +kernel
theorem dX11_init_73 : decode cX11_init 73 = .ok (.aload_n 0, 1) := by decide +kernel
theorem dX11_init_74 : decode cX11_init 74 = .ok (.new 54, 3) := by decide +kernel
theorem dX11_init_77 : decode cX11_init 77 = .ok (.dup, 1) := by decide +kernel
theorem dX11_init_78 : decode cX11_init 78 = .ok (.aload_n 0, 1) := by decide +kernel
theorem dX11_init_79 : decode cX11_init 79 = .ok (.getfield 50, 3) := by decide +kernel
theorem dX11_init_82 : decode cX11_init 82 = .ok (.invokespecial 56, 3) := by decide +kernel
theorem dX11_init_85 : decode cX11_init 85 = .ok (.putfield 59, 3) := by decide +kernel
theorem dX11_init_88 : decode cX11_init 88 = .ok (.aload_n 0, 1) := by decide +kernel
theorem dX11_init_89 : decode cX11_init 89 = .ok (.new 63, 3) := by decide +kernel
theorem dX11_init_92 : decode cX11_init 92 = .ok (.dup, 1) := by decide +kernel
theorem dX11_init_93 : decode cX11_init 93 = .ok (.invokespecial 65, 3) := by decide +kernel
theorem dX11_init_96 : decode cX11_init 96 = .ok (.putfield 66, 3) := by decide +kernel
theorem dX11_init_99 : decode cX11_init 99 = .ok (.aload_n 0, 1) := by decide +kernel
theorem dX11_init_100 : decode cX11_init 100 = .ok (.new 70, 3) := by decide +kernel
theorem dX11_init_103 : decode cX11_init 103 = .ok (.dup, 1) := by decide +kernel
theorem dX11_init_104 : decode cX11_init 104 = .ok (.invokespecial 72, 3) := by decide +kernel
theorem dX11_init_107 : decode cX11_init 107 = .ok (.putfield 73, 3) := by decide +kernel
theorem dX11_init_110 : decode cX11_init 110 = .ok (.aload_n 0, 1) := by decide +kernel
theorem dX11_init_111 : decode cX11_init 111 = .ok (.new 77, 3) := by decide +kernel
theorem dX11_init_114 : decode cX11_init 114 = .ok (.dup, 1) := by decide +kernel
theorem dX11_init_115 : decode cX11_init 115 = .ok (.invokespecial 79, 3) := by decide +kernel
theorem dX11_init_118 : decode cX11_init 118 = .ok (.putfield 80, 3) := by decide +kernel
theorem dX11_init_121 : decode cX11_init 121 = .ok (.aload_n 0, 1) := by decide +kernel
theorem dX11_init_122 : decode cX11_init 122 = .ok (.new 84, 3) := by decide +kernel
theorem dX11_init_125 : decode cX11_init 125 = .ok (.dup, 1) := by decide +kernel
theorem dX11_init_126 : decode cX11_init 126 = .ok (.invokespecial 86, 3) := by decide +kernel
theorem dX11_init_129 : decode cX11_init 129 = .ok (.putfield 87, 3) := by decide +kernel
theorem dX11_init_132 : decode cX11_init 132 = .ok (.aload_n 0, 1) := by decide +kernel
theorem dX11_init_133 : decode cX11_init 133 = .ok (.new 91, 3) := by decide +kernel
theorem dX11_init_136 : decode cX11_init 136 = .ok (.dup, 1) := by decide +kernel
theorem dX11_init_137 : decode cX11_init 137 = .ok (.invokespecial 93, 3) := by decide +kernel
theorem dX11_init_140 : decode cX11_init 140 = .ok (.putfield 94, 3) := by decide +kernel
theorem dX11_init_143 : decode cX11_init 143 = .ok (.return_, 1) := by decide +kernel
theorem dX11_feed_0 : decode cX11_feed 0 = .ok (.aload_n 0, 1) := by decide +kernel
theorem dX11_feed_1 : decode cX11_feed 1 = .ok (.getfield 12, 3) := by decide +kernel
theorem dX11_feed_4 : decode cX11_feed 4 = .ok (.iconst 5, 1) := by decide +kernel
theorem dX11_feed_5 : decode cX11_feed 5 = .ok (.invokevirtual 98, 3) := by decide +kernel
theorem dX11_feed_8 : decode cX11_feed 8 = .ok (.ifCond .ne 5, 3) := by decide +kernel
theorem dX11_feed_11 : decode cX11_feed 11 = .ok (.iconst (-1), 1) := by decide +kernel
theorem dX11_feed_12 : decode cX11_feed 12 = .ok (.ireturn, 1) := by decide +kernel
theorem dX11_feed_13 : decode cX11_feed 13 = .ok (.aload_n 0, 1) := by decide +kernel
theorem dX11_feed_14 : decode cX11_feed 14 = .ok (.getfield 12, 3) := by decide +kernel
theorem dX11_feed_17 : decode cX11_feed 17 = .ok (.iload_n 1, 1) := by decide +kernel
theorem dX11_feed_18 : decode cX11_feed 18 = .ok (.invokevirtual 102, 3) := by decide +kernel
theorem dX11_feed_21 : decode cX11_feed 21 = .ok (.aload_n 0, 1) := by decide +kernel
theorem dX11_feed_22 : decode cX11_feed 22 = .ok (.getfield 12, 3) := by decide +kernel
theorem dX11_feed_25 : decode cX11_feed 25 = .ok (.iload_n 2, 1) := by decide +kernel
theorem dX11_feed_26 : decode cX11_feed 26 = .ok (.invokevirtual 102, 3) := by decide +kernel
theorem dX11_feed_29 : decode cX11_feed 29 = .ok (.aload_n 0, 1) := by decide +kernel
theorem dX11_feed_30 : decode cX11_feed 30 = .ok (.getfield 12, 3) := by decide +kernel
theorem dX11_feed_33 : decode cX11_feed 33 = .ok (.iload_n 3, 1) := by decide +kernel
theorem dX11_feed_34 : decode cX11_feed 34 = .ok (.invokevirtual 102, 3) := by decide +kernel
theorem dX11_feed_37 : decode cX11_feed 37 = .ok (.aload_n 0, 1) := by decide +kernel
theorem dX11_feed_38 : decode cX11_feed 38 = .ok (.getfield 12, 3) := by decide +kernel
theorem dX11_feed_41 : decode cX11_feed 41 = .ok (.iload 4, 2) := by decide +kernel
theorem dX11_feed_43 : decode cX11_feed 43 = .ok (.invokevirtual 102, 3) := by decide +kernel
theorem dX11_feed_46 : decode cX11_feed 46 = .ok (.aload_n 0, 1) := by decide +kernel
theorem dX11_feed_47 : decode cX11_feed 47 = .ok (.getfield 12, 3) := by decide +kernel
theorem dX11_feed_50 : decode cX11_feed 50 = .ok (.iload 5, 2) := by decide +kernel
theorem dX11_feed_52 : decode cX11_feed 52 = .ok (.invokevirtual 102, 3) := by decide +kernel
theorem dX11_feed_55 : decode cX11_feed 55 = .ok (.aload_n 0, 1) := by decide +kernel
theorem dX11_feed_56 : decode cX11_feed 56 = .ok (.getfield 12, 3) := by decide +kernel
theorem dX11_feed_59 : decode cX11_feed 59 = .ok (.getfield 106, 3) := by decide +kernel
theorem dX11_feed_62 : decode cX11_feed 62 = .ok (.ireturn, 1) := by decide +kernel
theorem dX11_tones_0 : decode cX11_tones 0 = .ok (.aload_n 0, 1) := by decide +kernel
theorem dX11_tones_1 : decode cX11_tones 1 = .ok (.getfield 12, 3) := by decide +kernel
theorem dX11_tones_4 : decode cX11_tones 4 = .ok (.iload_n 1, 1) := by decide +kernel
theorem dX11_tones_5 : decode cX11_tones 5 = .ok (.invokevirtual 109, 3) := by decide +kernel
theorem dX11_tones_8 : decode cX11_tones 8 = .ok (.ifCond .ne 5, 3) := by decide +kernel
theorem dX11_tones_11 : decode cX11_tones 11 = .ok (.iconst (-1), 1) := by decide +kernel
theorem dX11_tones_12 : decode cX11_tones 12 = .ok (.ireturn, 1) := by decide +kernel
theorem dX11_tones_13 : decode cX11_tones 13 = .ok (.aload_n 0, 1) := by decide +kernel
theorem dX11_tones_14 : decode cX11_tones 14 = .ok (.getfield 21, 3) := by decide +kernel
theorem dX11_tones_17 : decode cX11_tones 17 = .ok (.aload_n 0, 1) := by decide +kernel
theorem dX11_tones_18 : decode cX11_tones 18 = .ok (.getfield 12, 3) := by decide +kernel
theorem dX11_tones_21 : decode cX11_tones 21 = .ok (.iload_n 1, 1) := by decide +kernel
theorem dX11_tones_22 : decode cX11_tones 22 = .ok (.iconst 1, 1) := by decide +kernel
theorem dX11_tones_23 : decode cX11_tones 23 = .ok (.invokevirtual 112, 3) := by decide +kernel
theorem dX11_tones_26 : decode cX11_tones 26 = .ok (.istore_n 2, 1) := by decide +kernel
theorem dX11_tones_27 : decode cX11_tones 27 = .ok (.aload_n 0, 1) := by decide +kernel
theorem dX11_tones_28 : decode cX11_tones 28 = .ok (.getfield 12, 3) := by decide +kernel
theorem dX11_tones_31 : decode cX11_tones 31 = .ok (.invokevirtual 116, 3) := by decide +kernel
theorem dX11_tones_34 : decode cX11_tones 34 = .ok (.iload_n 2, 1) := by decide +kernel
theorem dX11_tones_35 : decode cX11_tones 35 = .ok (.ifCond .eq 5, 3) := by decide +kernel
theorem dX11_tones_38 : decode cX11_tones 38 = .ok (.iload_n 2, 1) := by decide +kernel
theorem dX11_tones_39 : decode cX11_tones 39 = .ok (.ireturn, 1) := by decide +kernel
theorem dX11_tones_40 : decode cX11_tones 40 = .ok (.aload_n 0, 1) := by decide +kernel
theorem dX11_tones_41 : decode cX11_tones 41 = .ok (.getfield 35, 3) := by decide +kernel
theorem dX11_tones_44 : decode cX11_tones 44 = .ok (.getfield 119, 3) := by decide +kernel
theorem dX11_tones_47 : decode cX11_tones 47 = .ok (.aload_n 0, 1) := by decide +kernel
theorem dX11_tones_48 : decode cX11_tones 48 = .ok (.getfield 21, 3) := by decide +kernel
theorem dX11_tones_51 : decode cX11_tones 51 = .ok (.invokevirtual 122, 3) := by decide +kernel
theorem dX11_tones_54 : decode cX11_tones 54 = .ok (.aload_n 0, 1) := by decide +kernel
theorem dX11_tones_55 : decode cX11_tones 55 = .ok (.getfield 35, 3) := by decide +kernel
theorem dX11_tones_58 : decode cX11_tones 58 = .ok (.getfield 119, 3) := by decide +kernel
theorem dX11_tones_61 : decode cX11_tones 61 = .ok (.getfield 126, 3) := by decide +kernel
theorem dX11_tones_64 : decode cX11_tones 64 = .ok (.ireturn, 1) := by decide +kernel
theorem dX11_count_0 : decode cX11_count 0 = .ok (.iload_n 1, 1) := by decide +kernel
theorem dX11_count_1 : decode cX11_count 1 = .ok (.ifCond .ne 14, 3) := by decide +kernel
theorem dX11_count_4 : decode cX11_count 4 = .ok (.aload_n 0, 1) := by decide +kernel
theorem dX11_count_5 : decode cX11_count 5 = .ok (.getfield 35, 3) := by decide +kernel
theorem dX11_count_8 : decode cX11_count 8 = .ok (.getfield 119, 3) := by decide +kernel
theorem dX11_count_11 : decode cX11_count 11 = .ok (.getfield 126, 3) := by decide +kernel
theorem dX11_count_14 : decode cX11_count 14 = .ok (.ireturn, 1) := by decide +kernel
theorem dX11_count_15 : decode cX11_count 15 = .ok (.iload_n 1, 1) := by decide +kernel
theorem dX11_count_16 : decode cX11_count 16 = .ok (.iconst 1, 1) := by decide +kernel
theorem dX11_count_17 : decode cX11_count 17 = .ok (.if_icmp .ne 11, 3) := by decide +kernel
theorem dX11_count_20 : decode cX11_count 20 = .ok (.aload_n 0, 1) := by decide +kernel
theorem dX11_count_21 : decode cX11_count 21 = .ok (.getfield 35, 3) := by decide +kernel
theorem dX11_count_24 : decode cX11_count 24 = .ok (.invokevirtual 129, 3) := by decide +kernel
theorem dX11_count_27 : decode cX11_count 27 = .ok (.ireturn, 1) := by decide +kernel
theorem dX11_count_28 : decode cX11_count 28 = .ok (.iload_n 1, 1) := by decide +kernel
theorem dX11_count_29 : decode cX11_count 29 = .ok (.iconst 2, 1) := by decide +kernel
theorem dX11_count_30 : decode cX11_count 30 = .ok (.if_icmp .ne 11, 3) := by decide +kernel
theorem dX11_count_33 : decode cX11_count 33 = .ok (.aload_n 0, 1) := by decide +kernel
theorem dX11_count_34 : decode cX11_count 34 = .ok (.getfield 12, 3) := by decide +kernel
theorem dX11_count_37 : decode cX11_count 37 = .ok (.getfield 106, 3) := by decide +kernel
theorem dX11_count_40 : decode cX11_count 40 = .ok (.ireturn, 1) := by decide +kernel
theorem dX11_count_41 : decode cX11_count 41 = .ok (.iload_n 1, 1) := by decide +kernel
theorem dX11_count_42 : decode cX11_count 42 = .ok (.iconst 3, 1) := by decide +kernel
theorem dX11_count_43 : decode cX11_count 43 = .ok (.if_icmp .ne 8, 3) := by decide +kernel
theorem dX11_count_46 : decode cX11_count 46 = .ok (.aload_n 0, 1) := by decide +kernel
theorem dX11_count_47 : decode cX11_count 47 = .ok (.getfield 43, 3) := by decide +kernel
theorem dX11_count_50 : decode cX11_count 50 = .ok (.ireturn, 1) := by decide +kernel
theorem dX11_count_51 : decode cX11_count 51 = .ok (.iload_n 1, 1) := by decide +kernel
theorem dX11_count_52 : decode cX11_count 52 = .ok (.bipush 10, 2) := by decide +kernel
theorem dX11_count_54 : decode cX11_count 54 = .ok (.bipush 9, 2) := by decide +kernel
theorem dX11_count_56 : decode cX11_count 56 = .ok (.aload_n 0, 1) := by decide +kernel
theorem dX11_count_57 : decode cX11_count 57 = .ok (.getfield 35, 3) := by decide +kernel
theorem dX11_count_60 : decode cX11_count 60 = .ok (.getfield 119, 3) := by decide +kernel
theorem dX11_count_63 : decode cX11_count 63 = .ok (.getfield 126, 3) := by decide +kernel
theorem dX11_count_66 : decode cX11_count 66 = .ok (.iadd, 1) := by decide +kernel
theorem dX11_count_67 : decode cX11_count 67 = .ok (.invokestatic 133, 3) := by decide +kernel
theorem dX11_count_70 : decode cX11_count 70 = .ok (.ifCond .eq 19, 3) := by decide +kernel
theorem dX11_count_73 : decode cX11_count 73 = .ok (.aload_n 0, 1) := by decide +kernel
theorem dX11_count_74 : decode cX11_count 74 = .ok (.getfield 35, 3) := by decide +kernel
theorem dX11_count_77 : decode cX11_count 77 = .ok (.getfield 119, 3) := by decide +kernel
theorem dX11_count_80 : decode cX11_count 80 = .ok (.getfield 137, 3) := by decide +kernel
theorem dX11_count_83 : decode cX11_count 83 = .ok (.iload_n 1, 1) := by decide +kernel
theorem dX11_count_84 : decode cX11_count 84 = .ok (.bipush 10, 2) := by decide +kernel
theorem dX11_count_86 : decode cX11_count 86 = .ok (.isub, 1) := by decide +kernel
theorem dX11_count_87 : decode cX11_count 87 = .ok (.iaload, 1) := by decide +kernel
theorem dX11_count_88 : decode cX11_count 88 = .ok (.ireturn, 1) := by decide +kernel
theorem dX11_count_89 : decode cX11_count 89 = .ok (.iload_n 1, 1) := by decide +kernel
theorem dX11_count_90 : decode cX11_count 90 = .ok (.bipush 20, 2) := by decide +kernel
theorem dX11_count_92 : decode cX11_count 92 = .ok (.bipush 18, 2) := by decide +kernel
theorem dX11_count_94 : decode cX11_count 94 = .ok (.aload_n 0, 1) := by decide +kernel
theorem dX11_count_95 : decode cX11_count 95 = .ok (.getfield 35, 3) := by decide +kernel
theorem dX11_count_98 : decode cX11_count 98 = .ok (.getfield 119, 3) := by decide +kernel
theorem dX11_count_101 : decode cX11_count 101 = .ok (.getfield 126, 3) := by decide +kernel
theorem dX11_count_104 : decode cX11_count 104 = .ok (.iadd, 1) := by decide +kernel
theorem dX11_count_105 : decode cX11_count 105 = .ok (.invokestatic 133, 3) := by decide +kernel
theorem dX11_count_108 : decode cX11_count 108 = .ok (.ifCond .eq 19, 3) := by decide +kernel
theorem dX11_count_111 : decode cX11_count 111 = .ok (.aload_n 0, 1) := by decide +kernel
theorem dX11_count_112 : decode cX11_count 112 = .ok (.getfield 35, 3) := by decide +kernel
theorem dX11_count_115 : decode cX11_count 115 = .ok (.getfield 119, 3) := by decide +kernel
theorem dX11_count_118 : decode cX11_count 118 = .ok (.getfield 141, 3) := by decide +kernel
theorem dX11_count_121 : decode cX11_count 121 = .ok (.iload_n 1, 1) := by decide +kernel
theorem dX11_count_122 : decode cX11_count 122 = .ok (.bipush 20, 2) := by decide +kernel
theorem dX11_count_124 : decode cX11_count 124 = .ok (.isub, 1) := by decide +kernel
theorem dX11_count_125 : decode cX11_count 125 = .ok (.iaload, 1) := by decide +kernel
theorem dX11_count_126 : decode cX11_count 126 = .ok (.ireturn, 1) := by decide +kernel
theorem dX11_count_127 : decode cX11_count 127 = .ok (.ldc 146, 2) := by decide +kernel
theorem dX11_count_129 : decode cX11_count 129 = .ok (.ireturn, 1) := by decide +kernel
theorem dX11_polynomial_0 : decode cX11_polynomial 0 = .ok (.iload_n 1, 1) := by decide +kernel
theorem dX11_polynomial_1 : decode cX11_polynomial 1 = .ok (.ifCond .eq 16, 3) := by decide +kernel
theorem dX11_polynomial_4 : decode cX11_polynomial 4 = .ok (.aload_n 0, 1) := by decide +kernel
theorem dX11_polynomial_5 : decode cX11_polynomial 5 = .ok (.getfield 35, 3) := by decide +kernel
theorem dX11_polynomial_8 : decode cX11_polynomial 8 = .ok (.getfield 119, 3) := by decide +kernel
theorem dX11_polynomial_11 : decode cX11_polynomial 11 = .ok (.getfield 126, 3) := by decide +kernel
theorem dX11_polynomial_14 : decode cX11_polynomial 14 = .ok (.goto 15, 3) := by decide +kernel
theorem dX11_polynomial_17 : decode cX11_polynomial 17 = .ok (.aload_n 0, 1) := by decide +kernel
theorem dX11_polynomial_18 : decode cX11_polynomial 18 = .ok (.getfield 35, 3) := by decide +kernel
theorem dX11_polynomial_21 : decode cX11_polynomial 21 = .ok (.getfield 119, 3) := by decide +kernel
theorem dX11_polynomial_24 : decode cX11_polynomial 24 = .ok (.getfield 126, 3) := by decide +kernel
theorem dX11_polynomial_27 : decode cX11_polynomial 27 = .ok (.iconst 1, 1) := by decide +kernel
theorem dX11_polynomial_28 : decode cX11_polynomial 28 = .ok (.isub, 1) := by decide +kernel
theorem dX11_polynomial_29 : decode cX11_polynomial 29 = .ok (.istore_n 3, 1) := by decide +kernel
theorem dX11_polynomial_30 : decode cX11_polynomial 30 = .ok (.aload_n 0, 1) := by decide +kernel
theorem dX11_polynomial_31 : decode cX11_polynomial 31 = .ok (.invokevirtual 147, 3) := by decide +kernel
theorem dX11_polynomial_34 : decode cX11_polynomial 34 = .ok (.ifCond .eq 12, 3) := by decide +kernel
theorem dX11_polynomial_37 : decode cX11_polynomial 37 = .ok (.iload_n 2, 1) := by decide +kernel
theorem dX11_polynomial_38 : decode cX11_polynomial 38 = .ok (.iconst 0, 1) := by decide +kernel
theorem dX11_polynomial_39 : decode cX11_polynomial 39 = .ok (.iload_n 3, 1) := by decide +kernel
theorem dX11_polynomial_40 : decode cX11_polynomial 40 = .ok (.invokestatic 133, 3) := by decide +kernel
theorem dX11_polynomial_43 : decode cX11_polynomial 43 = .ok (.ifCond .ne 7, 3) := by decide +kernel
theorem dX11_polynomial_46 : decode cX11_polynomial 46 = .ok (.ldc2_w 151, 3) := by decide +kernel
theorem dX11_polynomial_49 : decode cX11_polynomial 49 = .ok (.lreturn, 1) := by decide +kernel
theorem dX11_polynomial_50 : decode cX11_polynomial 50 = .ok (.aload_n 0, 1) := by decide +kernel
theorem dX11_polynomial_51 : decode cX11_polynomial 51 = .ok (.getfield 50, 3) := by decide +kernel
theorem dX11_polynomial_54 : decode cX11_polynomial 54 = .ok (.aload_n 0, 1) := by decide +kernel
theorem dX11_polynomial_55 : decode cX11_polynomial 55 = .ok (.getfield 35, 3) := by decide +kernel
theorem dX11_polynomial_58 : decode cX11_polynomial 58 = .ok (.getfield 119, 3) := by decide +kernel
theorem dX11_polynomial_61 : decode cX11_polynomial 61 = .ok (.invokevirtual 153, 3) := by decide +kernel
theorem dX11_polynomial_64 : decode cX11_polynomial 64 = .ok (.iload_n 1, 1) := by decide +kernel
theorem dX11_polynomial_65 : decode cX11_polynomial 65 = .ok (.ifCond .eq 15, 3) := by decide +kernel
theorem dX11_polynomial_68 : decode cX11_polynomial 68 = .ok (.aload_n 0, 1) := by decide +kernel
theorem dX11_polynomial_69 : decode cX11_polynomial 69 = .ok (.getfield 50, 3) := by decide +kernel
theorem dX11_polynomial_72 : decode cX11_polynomial 72 = .ok (.getfield 157, 3) := by decide +kernel
theorem dX11_polynomial_75 : decode cX11_polynomial 75 = .ok (.iload_n 2, 1) := by decide +kernel
theorem dX11_polynomial_76 : decode cX11_polynomial 76 = .ok (.laload, 1) := by decide +kernel
theorem dX11_polynomial_77 : decode cX11_polynomial 77 = .ok (.goto 12, 3) := by decide +kernel
theorem dX11_polynomial_80 : decode cX11_polynomial 80 = .ok (.aload_n 0, 1) := by decide +kernel
theorem dX11_polynomial_81 : decode cX11_polynomial 81 = .ok (.getfield 50, 3) := by decide +kernel
theorem dX11_polynomial_84 : decode cX11_polynomial 84 = .ok (.getfield 161, 3) := by decide +kernel
theorem dX11_polynomial_87 : decode cX11_polynomial 87 = .ok (.iload_n 2, 1) := by decide +kernel
theorem dX11_polynomial_88 : decode cX11_polynomial 88 = .ok (.laload, 1) := by decide +kernel
theorem dX11_polynomial_89 : decode cX11_polynomial 89 = .ok (.lreturn, 1) := by decide +kernel
theorem dX11_moment_0 : decode cX11_moment 0 = .ok (.aload_n 0, 1) := by decide +kernel
theorem dX11_moment_1 : decode cX11_moment 1 = .ok (.invokevirtual 147, 3) := by decide +kernel
theorem dX11_moment_4 : decode cX11_moment 4 = .ok (.ifCond .eq 13, 3) := by decide +kernel
theorem dX11_moment_7 : decode cX11_moment 7 = .ok (.iload_n 1, 1) := by decide +kernel
theorem dX11_moment_8 : decode cX11_moment 8 = .ok (.iconst 0, 1) := by decide +kernel
theorem dX11_moment_9 : decode cX11_moment 9 = .ok (.bipush 7, 2) := by decide +kernel
theorem dX11_moment_11 : decode cX11_moment 11 = .ok (.invokestatic 133, 3) := by decide +kernel
theorem dX11_moment_14 : decode cX11_moment 14 = .ok (.ifCond .ne 7, 3) := by decide +kernel
theorem dX11_moment_17 : decode cX11_moment 17 = .ok (.ldc2_w 151, 3) := by decide +kernel
theorem dX11_moment_20 : decode cX11_moment 20 = .ok (.lreturn, 1) := by decide +kernel
theorem dX11_moment_21 : decode cX11_moment 21 = .ok (.aload_n 0, 1) := by decide +kernel
theorem dX11_moment_22 : decode cX11_moment 22 = .ok (.getfield 50, 3) := by decide +kernel
theorem dX11_moment_25 : decode cX11_moment 25 = .ok (.aload_n 0, 1) := by decide +kernel
theorem dX11_moment_26 : decode cX11_moment 26 = .ok (.getfield 35, 3) := by decide +kernel
theorem dX11_moment_29 : decode cX11_moment 29 = .ok (.getfield 119, 3) := by decide +kernel
theorem dX11_moment_32 : decode cX11_moment 32 = .ok (.invokevirtual 153, 3) := by decide +kernel
theorem dX11_moment_35 : decode cX11_moment 35 = .ok (.aload_n 0, 1) := by decide +kernel
theorem dX11_moment_36 : decode cX11_moment 36 = .ok (.getfield 50, 3) := by decide +kernel
theorem dX11_moment_39 : decode cX11_moment 39 = .ok (.getfield 164, 3) := by decide +kernel
theorem dX11_moment_42 : decode cX11_moment 42 = .ok (.iload_n 1, 1) := by decide +kernel
theorem dX11_moment_43 : decode cX11_moment 43 = .ok (.laload, 1) := by decide +kernel
theorem dX11_moment_44 : decode cX11_moment 44 = .ok (.lreturn, 1) := by decide +kernel
theorem dX11_weight_0 : decode cX11_weight 0 = .ok (.aload_n 0, 1) := by decide +kernel
theorem dX11_weight_1 : decode cX11_weight 1 = .ok (.invokevirtual 147, 3) := by decide +kernel
theorem dX11_weight_4 : decode cX11_weight 4 = .ok (.ifCond .eq 18, 3) := by decide +kernel
theorem dX11_weight_7 : decode cX11_weight 7 = .ok (.aload_n 0, 1) := by decide +kernel
theorem dX11_weight_8 : decode cX11_weight 8 = .ok (.iload_n 1, 1) := by decide +kernel
theorem dX11_weight_9 : decode cX11_weight 9 = .ok (.invokevirtual 167, 3) := by decide +kernel
theorem dX11_weight_12 : decode cX11_weight 12 = .ok (.ifCond .eq 10, 3) := by decide +kernel
theorem dX11_weight_15 : decode cX11_weight 15 = .ok (.iload_n 2, 1) := by decide +kernel
theorem dX11_weight_16 : decode cX11_weight 16 = .ok (.invokestatic 170, 3) := by decide +kernel
theorem dX11_weight_19 : decode cX11_weight 19 = .ok (.ifCond .ne 7, 3) := by decide +kernel
theorem dX11_weight_22 : decode cX11_weight 22 = .ok (.ldc2_w 151, 3) := by decide +kernel
theorem dX11_weight_25 : decode cX11_weight 25 = .ok (.lreturn, 1) := by decide +kernel
theorem dX11_weight_26 : decode cX11_weight 26 = .ok (.aload_n 0, 1) := by decide +kernel
theorem dX11_weight_27 : decode cX11_weight 27 = .ok (.getfield 35, 3) := by decide +kernel
theorem dX11_weight_30 : decode cX11_weight 30 = .ok (.getfield 119, 3) := by decide +kernel
theorem dX11_weight_33 : decode cX11_weight 33 = .ok (.iload_n 1, 1) := by decide +kernel
theorem dX11_weight_34 : decode cX11_weight 34 = .ok (.aload_n 0, 1) := by decide +kernel
theorem dX11_weight_35 : decode cX11_weight 35 = .ok (.getfield 94, 3) := by decide +kernel
theorem dX11_weight_38 : decode cX11_weight 38 = .ok (.invokevirtual 173, 3) := by decide +kernel
theorem dX11_weight_41 : decode cX11_weight 41 = .ok (.aload_n 0, 1) := by decide +kernel
theorem dX11_weight_42 : decode cX11_weight 42 = .ok (.getfield 94, 3) := by decide +kernel
theorem dX11_weight_45 : decode cX11_weight 45 = .ok (.iload_n 2, 1) := by decide +kernel
theorem dX11_weight_46 : decode cX11_weight 46 = .ok (.invokevirtual 177, 3) := by decide +kernel
theorem dX11_weight_49 : decode cX11_weight 49 = .ok (.lreturn, 1) := by decide +kernel
theorem dX11_determinant_0 : decode cX11_determinant 0 = .ok (.aload_n 0, 1) := by decide +kernel
theorem dX11_determinant_1 : decode cX11_determinant 1 = .ok (.invokevirtual 147, 3) := by decide +kernel
theorem dX11_determinant_4 : decode cX11_determinant 4 = .ok (.ifCond .eq 21, 3) := by decide +kernel
theorem dX11_determinant_7 : decode cX11_determinant 7 = .ok (.iload_n 1, 1) := by decide +kernel
theorem dX11_determinant_8 : decode cX11_determinant 8 = .ok (.iconst 0, 1) := by decide +kernel
theorem dX11_determinant_9 : decode cX11_determinant 9 = .ok (.iconst 4, 1) := by decide +kernel
theorem dX11_determinant_10 : decode cX11_determinant 10 = .ok (.invokestatic 133, 3) := by decide +kernel
theorem dX11_determinant_13 : decode cX11_determinant 13 = .ok (.ifCond .eq 12, 3) := by decide +kernel
theorem dX11_determinant_16 : decode cX11_determinant 16 = .ok (.iload_n 2, 1) := by decide +kernel
theorem dX11_determinant_17 : decode cX11_determinant 17 = .ok (.iconst 0, 1) := by decide +kernel
theorem dX11_determinant_18 : decode cX11_determinant 18 = .ok (.iconst 1, 1) := by decide +kernel
theorem dX11_determinant_19 : decode cX11_determinant 19 = .ok (.invokestatic 133, 3) := by decide +kernel
theorem dX11_determinant_22 : decode cX11_determinant 22 = .ok (.ifCond .ne 7, 3) := by decide +kernel
theorem dX11_determinant_25 : decode cX11_determinant 25 = .ok (.ldc2_w 151, 3) := by decide +kernel
theorem dX11_determinant_28 : decode cX11_determinant 28 = .ok (.lreturn, 1) := by decide +kernel
theorem dX11_determinant_29 : decode cX11_determinant 29 = .ok (.aload_n 0, 1) := by decide +kernel
theorem dX11_determinant_30 : decode cX11_determinant 30 = .ok (.getfield 50, 3) := by decide +kernel
theorem dX11_determinant_33 : decode cX11_determinant 33 = .ok (.aload_n 0, 1) := by decide +kernel
theorem dX11_determinant_34 : decode cX11_determinant 34 = .ok (.getfield 35, 3) := by decide +kernel
theorem dX11_determinant_37 : decode cX11_determinant 37 = .ok (.getfield 119, 3) := by decide +kernel
theorem dX11_determinant_40 : decode cX11_determinant 40 = .ok (.invokevirtual 153, 3) := by decide +kernel
theorem dX11_determinant_43 : decode cX11_determinant 43 = .ok (.aload_n 0, 1) := by decide +kernel
theorem dX11_determinant_44 : decode cX11_determinant 44 = .ok (.getfield 50, 3) := by decide +kernel
theorem dX11_determinant_47 : decode cX11_determinant 47 = .ok (.iload_n 1, 1) := by decide +kernel
theorem dX11_determinant_48 : decode cX11_determinant 48 = .ok (.iload_n 2, 1) := by decide +kernel
theorem dX11_determinant_49 : decode cX11_determinant 49 = .ok (.invokevirtual 181, 3) := by decide +kernel
theorem dX11_determinant_52 : decode cX11_determinant 52 = .ok (.lreturn, 1) := by decide +kernel
theorem dX11_entry_0 : decode cX11_entry 0 = .ok (.iload_n 1, 1) := by decide +kernel
theorem dX11_entry_1 : decode cX11_entry 1 = .ok (.ifCond .eq 18, 3) := by decide +kernel
theorem dX11_entry_4 : decode cX11_entry 4 = .ok (.aload_n 0, 1) := by decide +kernel
theorem dX11_entry_5 : decode cX11_entry 5 = .ok (.getfield 35, 3) := by decide +kernel
theorem dX11_entry_8 : decode cX11_entry 8 = .ok (.getfield 119, 3) := by decide +kernel
theorem dX11_entry_11 : decode cX11_entry 11 = .ok (.getfield 126, 3) := by decide +kernel
theorem dX11_entry_14 : decode cX11_entry 14 = .ok (.iconst 1, 1) := by decide +kernel
theorem dX11_entry_15 : decode cX11_entry 15 = .ok (.isub, 1) := by decide +kernel
theorem dX11_entry_16 : decode cX11_entry 16 = .ok (.goto 15, 3) := by decide +kernel
theorem dX11_entry_19 : decode cX11_entry 19 = .ok (.aload_n 0, 1) := by decide +kernel
theorem dX11_entry_20 : decode cX11_entry 20 = .ok (.getfield 35, 3) := by decide +kernel
theorem dX11_entry_23 : decode cX11_entry 23 = .ok (.getfield 119, 3) := by decide +kernel
theorem dX11_entry_26 : decode cX11_entry 26 = .ok (.getfield 126, 3) := by decide +kernel
theorem dX11_entry_29 : decode cX11_entry 29 = .ok (.iconst 2, 1) := by decide +kernel
theorem dX11_entry_30 : decode cX11_entry 30 = .ok (.isub, 1) := by decide +kernel
theorem dX11_entry_31 : decode cX11_entry 31 = .ok (.istore 4, 2) := by decide +kernel
theorem dX11_entry_33 : decode cX11_entry 33 = .ok (.aload_n 0, 1) := by decide +kernel
theorem dX11_entry_34 : decode cX11_entry 34 = .ok (.invokevirtual 147, 3) := by decide +kernel
theorem dX11_entry_37 : decode cX11_entry 37 = .ok (.ifCond .eq 20, 3) := by decide +kernel
theorem dX11_entry_40 : decode cX11_entry 40 = .ok (.iload_n 2, 1) := by decide +kernel
theorem dX11_entry_41 : decode cX11_entry 41 = .ok (.iconst 0, 1) := by decide +kernel
theorem dX11_entry_42 : decode cX11_entry 42 = .ok (.iload 4, 2) := by decide +kernel
theorem dX11_entry_44 : decode cX11_entry 44 = .ok (.invokestatic 133, 3) := by decide +kernel
theorem dX11_entry_47 : decode cX11_entry 47 = .ok (.ifCond .eq 10, 3) := by decide +kernel
theorem dX11_entry_50 : decode cX11_entry 50 = .ok (.iload_n 3, 1) := by decide +kernel
theorem dX11_entry_51 : decode cX11_entry 51 = .ok (.invokestatic 170, 3) := by decide +kernel
theorem dX11_entry_54 : decode cX11_entry 54 = .ok (.ifCond .ne 7, 3) := by decide +kernel
theorem dX11_entry_57 : decode cX11_entry 57 = .ok (.ldc2_w 151, 3) := by decide +kernel
theorem dX11_entry_60 : decode cX11_entry 60 = .ok (.lreturn, 1) := by decide +kernel
theorem dX11_entry_61 : decode cX11_entry 61 = .ok (.aload_n 0, 1) := by decide +kernel
theorem dX11_entry_62 : decode cX11_entry 62 = .ok (.getfield 59, 3) := by decide +kernel
theorem dX11_entry_65 : decode cX11_entry 65 = .ok (.aload_n 0, 1) := by decide +kernel
theorem dX11_entry_66 : decode cX11_entry 66 = .ok (.getfield 35, 3) := by decide +kernel
theorem dX11_entry_69 : decode cX11_entry 69 = .ok (.getfield 119, 3) := by decide +kernel
theorem dX11_entry_72 : decode cX11_entry 72 = .ok (.invokevirtual 185, 3) := by decide +kernel
theorem dX11_entry_75 : decode cX11_entry 75 = .ok (.iload_n 1, 1) := by decide +kernel
theorem dX11_entry_76 : decode cX11_entry 76 = .ok (.ifCond .eq 19, 3) := by decide +kernel
theorem dX11_entry_79 : decode cX11_entry 79 = .ok (.aload_n 0, 1) := by decide +kernel
theorem dX11_entry_80 : decode cX11_entry 80 = .ok (.getfield 59, 3) := by decide +kernel
theorem dX11_entry_83 : decode cX11_entry 83 = .ok (.getfield 186, 3) := by decide +kernel
theorem dX11_entry_86 : decode cX11_entry 86 = .ok (.iload_n 2, 1) := by decide +kernel
theorem dX11_entry_87 : decode cX11_entry 87 = .ok (.aaload, 1) := by decide +kernel
theorem dX11_entry_88 : decode cX11_entry 88 = .ok (.iload_n 3, 1) := by decide +kernel
theorem dX11_entry_89 : decode cX11_entry 89 = .ok (.invokevirtual 177, 3) := by decide +kernel
theorem dX11_entry_92 : decode cX11_entry 92 = .ok (.goto 16, 3) := by decide +kernel
theorem dX11_entry_95 : decode cX11_entry 95 = .ok (.aload_n 0, 1) := by decide +kernel
theorem dX11_entry_96 : decode cX11_entry 96 = .ok (.getfield 59, 3) := by decide +kernel
theorem dX11_entry_99 : decode cX11_entry 99 = .ok (.getfield 190, 3) := by decide +kernel
theorem dX11_entry_102 : decode cX11_entry 102 = .ok (.iload_n 2, 1) := by decide +kernel
theorem dX11_entry_103 : decode cX11_entry 103 = .ok (.aaload, 1) := by decide +kernel
theorem dX11_entry_104 : decode cX11_entry 104 = .ok (.iload_n 3, 1) := by decide +kernel
theorem dX11_entry_105 : decode cX11_entry 105 = .ok (.invokevirtual 177, 3) := by decide +kernel
theorem dX11_entry_108 : decode cX11_entry 108 = .ok (.lreturn, 1) := by decide +kernel
theorem dX11_ortho_0 : decode cX11_ortho 0 = .ok (.aload_n 0, 1) := by decide +kernel
theorem dX11_ortho_1 : decode cX11_ortho 1 = .ok (.invokevirtual 147, 3) := by decide +kernel
theorem dX11_ortho_4 : decode cX11_ortho 4 = .ok (.ifCond .eq 37, 3) := by decide +kernel
theorem dX11_ortho_7 : decode cX11_ortho 7 = .ok (.iload_n 1, 1) := by decide +kernel
theorem dX11_ortho_8 : decode cX11_ortho 8 = .ok (.iconst 0, 1) := by decide +kernel
theorem dX11_ortho_9 : decode cX11_ortho 9 = .ok (.aload_n 0, 1) := by decide +kernel
theorem dX11_ortho_10 : decode cX11_ortho 10 = .ok (.getfield 35, 3) := by decide +kernel
theorem dX11_ortho_13 : decode cX11_ortho 13 = .ok (.getfield 119, 3) := by decide +kernel
theorem dX11_ortho_16 : decode cX11_ortho 16 = .ok (.getfield 126, 3) := by decide +kernel
theorem dX11_ortho_19 : decode cX11_ortho 19 = .ok (.invokestatic 133, 3) := by decide +kernel
theorem dX11_ortho_22 : decode cX11_ortho 22 = .ok (.ifCond .eq 19, 3) := by decide +kernel
theorem dX11_ortho_25 : decode cX11_ortho 25 = .ok (.iload_n 2, 1) := by decide +kernel
theorem dX11_ortho_26 : decode cX11_ortho 26 = .ok (.iconst 0, 1) := by decide +kernel
theorem dX11_ortho_27 : decode cX11_ortho 27 = .ok (.iload_n 1, 1) := by decide +kernel
theorem dX11_ortho_28 : decode cX11_ortho 28 = .ok (.invokestatic 133, 3) := by decide +kernel
theorem dX11_ortho_31 : decode cX11_ortho 31 = .ok (.ifCond .eq 10, 3) := by decide +kernel
theorem dX11_ortho_34 : decode cX11_ortho 34 = .ok (.iload_n 3, 1) := by decide +kernel
theorem dX11_ortho_35 : decode cX11_ortho 35 = .ok (.invokestatic 170, 3) := by decide +kernel
theorem dX11_ortho_38 : decode cX11_ortho 38 = .ok (.ifCond .ne 7, 3) := by decide +kernel
theorem dX11_ortho_41 : decode cX11_ortho 41 = .ok (.ldc2_w 151, 3) := by decide +kernel
theorem dX11_ortho_44 : decode cX11_ortho 44 = .ok (.lreturn, 1) := by decide +kernel
theorem dX11_ortho_45 : decode cX11_ortho 45 = .ok (.aload_n 0, 1) := by decide +kernel
theorem dX11_ortho_46 : decode cX11_ortho 46 = .ok (.getfield 59, 3) := by decide +kernel
theorem dX11_ortho_49 : decode cX11_ortho 49 = .ok (.aload_n 0, 1) := by decide +kernel
theorem dX11_ortho_50 : decode cX11_ortho 50 = .ok (.getfield 35, 3) := by decide +kernel
theorem dX11_ortho_53 : decode cX11_ortho 53 = .ok (.getfield 119, 3) := by decide +kernel
theorem dX11_ortho_56 : decode cX11_ortho 56 = .ok (.invokevirtual 185, 3) := by decide +kernel
theorem dX11_ortho_59 : decode cX11_ortho 59 = .ok (.aload_n 0, 1) := by decide +kernel
theorem dX11_ortho_60 : decode cX11_ortho 60 = .ok (.getfield 59, 3) := by decide +kernel
theorem dX11_ortho_63 : decode cX11_ortho 63 = .ok (.iload_n 1, 1) := by decide +kernel
theorem dX11_ortho_64 : decode cX11_ortho 64 = .ok (.invokevirtual 193, 3) := by decide +kernel
theorem dX11_ortho_67 : decode cX11_ortho 67 = .ok (.iload_n 2, 1) := by decide +kernel
theorem dX11_ortho_68 : decode cX11_ortho 68 = .ok (.aaload, 1) := by decide +kernel
theorem dX11_ortho_69 : decode cX11_ortho 69 = .ok (.iload_n 3, 1) := by decide +kernel
theorem dX11_ortho_70 : decode cX11_ortho 70 = .ok (.invokevirtual 177, 3) := by decide +kernel
theorem dX11_ortho_73 : decode cX11_ortho 73 = .ok (.lreturn, 1) := by decide +kernel
theorem dX11_fraction_0 : decode cX11_fraction 0 = .ok (.aload_n 0, 1) := by decide +kernel
theorem dX11_fraction_1 : decode cX11_fraction 1 = .ok (.invokevirtual 147, 3) := by decide +kernel
theorem dX11_fraction_4 : decode cX11_fraction 4 = .ok (.ifCond .eq 39, 3) := by decide +kernel
theorem dX11_fraction_7 : decode cX11_fraction 7 = .ok (.iload_n 1, 1) := by decide +kernel
theorem dX11_fraction_8 : decode cX11_fraction 8 = .ok (.iconst 1, 1) := by decide +kernel
theorem dX11_fraction_9 : decode cX11_fraction 9 = .ok (.aload_n 0, 1) := by decide +kernel
theorem dX11_fraction_10 : decode cX11_fraction 10 = .ok (.getfield 35, 3) := by decide +kernel
theorem dX11_fraction_13 : decode cX11_fraction 13 = .ok (.getfield 119, 3) := by decide +kernel
theorem dX11_fraction_16 : decode cX11_fraction 16 = .ok (.getfield 126, 3) := by decide +kernel
theorem dX11_fraction_19 : decode cX11_fraction 19 = .ok (.invokestatic 133, 3) := by decide +kernel
theorem dX11_fraction_22 : decode cX11_fraction 22 = .ok (.ifCond .eq 21, 3) := by decide +kernel
theorem dX11_fraction_25 : decode cX11_fraction 25 = .ok (.iload_n 2, 1) := by decide +kernel
theorem dX11_fraction_26 : decode cX11_fraction 26 = .ok (.bipush (-20), 2) := by decide +kernel
theorem dX11_fraction_28 : decode cX11_fraction 28 = .ok (.bipush 20, 2) := by decide +kernel
theorem dX11_fraction_30 : decode cX11_fraction 30 = .ok (.invokestatic 133, 3) := by decide +kernel
theorem dX11_fraction_33 : decode cX11_fraction 33 = .ok (.ifCond .eq 10, 3) := by decide +kernel
theorem dX11_fraction_36 : decode cX11_fraction 36 = .ok (.iload_n 3, 1) := by decide +kernel
theorem dX11_fraction_37 : decode cX11_fraction 37 = .ok (.invokestatic 170, 3) := by decide +kernel
theorem dX11_fraction_40 : decode cX11_fraction 40 = .ok (.ifCond .ne 7, 3) := by decide +kernel
theorem dX11_fraction_43 : decode cX11_fraction 43 = .ok (.ldc2_w 151, 3) := by decide +kernel
theorem dX11_fraction_46 : decode cX11_fraction 46 = .ok (.lreturn, 1) := by decide +kernel
theorem dX11_fraction_47 : decode cX11_fraction 47 = .ok (.aload_n 0, 1) := by decide +kernel
theorem dX11_fraction_48 : decode cX11_fraction 48 = .ok (.getfield 59, 3) := by decide +kernel
theorem dX11_fraction_51 : decode cX11_fraction 51 = .ok (.aload_n 0, 1) := by decide +kernel
theorem dX11_fraction_52 : decode cX11_fraction 52 = .ok (.getfield 35, 3) := by decide +kernel
theorem dX11_fraction_55 : decode cX11_fraction 55 = .ok (.getfield 119, 3) := by decide +kernel
theorem dX11_fraction_58 : decode cX11_fraction 58 = .ok (.invokevirtual 185, 3) := by decide +kernel
theorem dX11_fraction_61 : decode cX11_fraction 61 = .ok (.aload_n 0, 1) := by decide +kernel
theorem dX11_fraction_62 : decode cX11_fraction 62 = .ok (.getfield 59, 3) := by decide +kernel
theorem dX11_fraction_65 : decode cX11_fraction 65 = .ok (.iload_n 1, 1) := by decide +kernel
theorem dX11_fraction_66 : decode cX11_fraction 66 = .ok (.iload_n 2, 1) := by decide +kernel
theorem dX11_fraction_67 : decode cX11_fraction 67 = .ok (.aload_n 0, 1) := by decide +kernel
theorem dX11_fraction_68 : decode cX11_fraction 68 = .ok (.getfield 94, 3) := by decide +kernel
theorem dX11_fraction_71 : decode cX11_fraction 71 = .ok (.invokevirtual 197, 3) := by decide +kernel
theorem dX11_fraction_74 : decode cX11_fraction 74 = .ok (.ifCond .eq 14, 3) := by decide +kernel
theorem dX11_fraction_77 : decode cX11_fraction 77 = .ok (.aload_n 0, 1) := by decide +kernel
theorem dX11_fraction_78 : decode cX11_fraction 78 = .ok (.getfield 94, 3) := by decide +kernel
theorem dX11_fraction_81 : decode cX11_fraction 81 = .ok (.iload_n 3, 1) := by decide +kernel
theorem dX11_fraction_82 : decode cX11_fraction 82 = .ok (.invokevirtual 177, 3) := by decide +kernel
theorem dX11_fraction_85 : decode cX11_fraction 85 = .ok (.goto 6, 3) := by decide +kernel
theorem dX11_fraction_88 : decode cX11_fraction 88 = .ok (.ldc2_w 201, 3) := by decide +kernel
theorem dX11_fraction_91 : decode cX11_fraction 91 = .ok (.lreturn, 1) := by decide +kernel
theorem dX11_chain_0 : decode cX11_chain 0 = .ok (.aload_n 0, 1) := by decide +kernel
theorem dX11_chain_1 : decode cX11_chain 1 = .ok (.invokevirtual 147, 3) := by decide +kernel
theorem dX11_chain_4 : decode cX11_chain 4 = .ok (.ifCond .eq 27, 3) := by decide +kernel
theorem dX11_chain_7 : decode cX11_chain 7 = .ok (.iload_n 1, 1) := by decide +kernel
theorem dX11_chain_8 : decode cX11_chain 8 = .ok (.iconst 0, 1) := by decide +kernel
theorem dX11_chain_9 : decode cX11_chain 9 = .ok (.iconst 1, 1) := by decide +kernel
theorem dX11_chain_10 : decode cX11_chain 10 = .ok (.invokestatic 133, 3) := by decide +kernel
theorem dX11_chain_13 : decode cX11_chain 13 = .ok (.ifCond .eq 18, 3) := by decide +kernel
theorem dX11_chain_16 : decode cX11_chain 16 = .ok (.aload_n 0, 1) := by decide +kernel
theorem dX11_chain_17 : decode cX11_chain 17 = .ok (.iload_n 2, 1) := by decide +kernel
theorem dX11_chain_18 : decode cX11_chain 18 = .ok (.invokevirtual 167, 3) := by decide +kernel
theorem dX11_chain_21 : decode cX11_chain 21 = .ok (.ifCond .eq 10, 3) := by decide +kernel
theorem dX11_chain_24 : decode cX11_chain 24 = .ok (.iload_n 3, 1) := by decide +kernel
theorem dX11_chain_25 : decode cX11_chain 25 = .ok (.invokestatic 170, 3) := by decide +kernel
theorem dX11_chain_28 : decode cX11_chain 28 = .ok (.ifCond .ne 7, 3) := by decide +kernel
theorem dX11_chain_31 : decode cX11_chain 31 = .ok (.ldc2_w 151, 3) := by decide +kernel
theorem dX11_chain_34 : decode cX11_chain 34 = .ok (.lreturn, 1) := by decide +kernel
theorem dX11_chain_35 : decode cX11_chain 35 = .ok (.aload_n 0, 1) := by decide +kernel
theorem dX11_chain_36 : decode cX11_chain 36 = .ok (.invokevirtual 203, 3) := by decide +kernel
theorem dX11_chain_39 : decode cX11_chain 39 = .ok (.ifCond .ne 7, 3) := by decide +kernel
theorem dX11_chain_42 : decode cX11_chain 42 = .ok (.ldc2_w 201, 3) := by decide +kernel
theorem dX11_chain_45 : decode cX11_chain 45 = .ok (.lreturn, 1) := by decide +kernel
theorem dX11_chain_46 : decode cX11_chain 46 = .ok (.aload_n 0, 1) := by decide +kernel
theorem dX11_chain_47 : decode cX11_chain 47 = .ok (.getfield 59, 3) := by decide +kernel
theorem dX11_chain_50 : decode cX11_chain 50 = .ok (.aload_n 0, 1) := by decide +kernel
theorem dX11_chain_51 : decode cX11_chain 51 = .ok (.getfield 35, 3) := by decide +kernel
theorem dX11_chain_54 : decode cX11_chain 54 = .ok (.getfield 119, 3) := by decide +kernel
theorem dX11_chain_57 : decode cX11_chain 57 = .ok (.invokevirtual 185, 3) := by decide +kernel
theorem dX11_chain_60 : decode cX11_chain 60 = .ok (.aload_n 0, 1) := by decide +kernel
theorem dX11_chain_61 : decode cX11_chain 61 = .ok (.getfield 59, 3) := by decide +kernel
theorem dX11_chain_64 : decode cX11_chain 64 = .ok (.invokevirtual 206, 3) := by decide +kernel
theorem dX11_chain_67 : decode cX11_chain 67 = .ok (.iload_n 1, 1) := by decide +kernel
theorem dX11_chain_68 : decode cX11_chain 68 = .ok (.ifCond .ne 19, 3) := by decide +kernel
theorem dX11_chain_71 : decode cX11_chain 71 = .ok (.aload_n 0, 1) := by decide +kernel
theorem dX11_chain_72 : decode cX11_chain 72 = .ok (.getfield 59, 3) := by decide +kernel
theorem dX11_chain_75 : decode cX11_chain 75 = .ok (.getfield 209, 3) := by decide +kernel
theorem dX11_chain_78 : decode cX11_chain 78 = .ok (.iload_n 2, 1) := by decide +kernel
theorem dX11_chain_79 : decode cX11_chain 79 = .ok (.aaload, 1) := by decide +kernel
theorem dX11_chain_80 : decode cX11_chain 80 = .ok (.iload_n 3, 1) := by decide +kernel
theorem dX11_chain_81 : decode cX11_chain 81 = .ok (.invokevirtual 177, 3) := by decide +kernel
theorem dX11_chain_84 : decode cX11_chain 84 = .ok (.goto 16, 3) := by decide +kernel
theorem dX11_chain_87 : decode cX11_chain 87 = .ok (.aload_n 0, 1) := by decide +kernel
theorem dX11_chain_88 : decode cX11_chain 88 = .ok (.getfield 59, 3) := by decide +kernel
theorem dX11_chain_91 : decode cX11_chain 91 = .ok (.getfield 212, 3) := by decide +kernel
theorem dX11_chain_94 : decode cX11_chain 94 = .ok (.iload_n 2, 1) := by decide +kernel
theorem dX11_chain_95 : decode cX11_chain 95 = .ok (.aaload, 1) := by decide +kernel
theorem dX11_chain_96 : decode cX11_chain 96 = .ok (.iload_n 3, 1) := by decide +kernel
theorem dX11_chain_97 : decode cX11_chain 97 = .ok (.invokevirtual 177, 3) := by decide +kernel
theorem dX11_chain_100 : decode cX11_chain 100 = .ok (.lreturn, 1) := by decide +kernel
theorem dX11_mass_0 : decode cX11_mass 0 = .ok (.aload_n 0, 1) := by decide +kernel
theorem dX11_mass_1 : decode cX11_mass 1 = .ok (.invokevirtual 147, 3) := by decide +kernel
theorem dX11_mass_4 : decode cX11_mass 4 = .ok (.ifCond .eq 10, 3) := by decide +kernel
theorem dX11_mass_7 : decode cX11_mass 7 = .ok (.iload_n 1, 1) := by decide +kernel
theorem dX11_mass_8 : decode cX11_mass 8 = .ok (.invokestatic 170, 3) := by decide +kernel
theorem dX11_mass_11 : decode cX11_mass 11 = .ok (.ifCond .ne 7, 3) := by decide +kernel
theorem dX11_mass_14 : decode cX11_mass 14 = .ok (.ldc2_w 151, 3) := by decide +kernel
theorem dX11_mass_17 : decode cX11_mass 17 = .ok (.lreturn, 1) := by decide +kernel
theorem dX11_mass_18 : decode cX11_mass 18 = .ok (.aload_n 0, 1) := by decide +kernel
theorem dX11_mass_19 : decode cX11_mass 19 = .ok (.invokevirtual 203, 3) := by decide +kernel
theorem dX11_mass_22 : decode cX11_mass 22 = .ok (.ifCond .ne 7, 3) := by decide +kernel
theorem dX11_mass_25 : decode cX11_mass 25 = .ok (.ldc2_w 201, 3) := by decide +kernel
theorem dX11_mass_28 : decode cX11_mass 28 = .ok (.lreturn, 1) := by decide +kernel
theorem dX11_mass_29 : decode cX11_mass 29 = .ok (.aload_n 0, 1) := by decide +kernel
theorem dX11_mass_30 : decode cX11_mass 30 = .ok (.getfield 59, 3) := by decide +kernel
theorem dX11_mass_33 : decode cX11_mass 33 = .ok (.aload_n 0, 1) := by decide +kernel
theorem dX11_mass_34 : decode cX11_mass 34 = .ok (.getfield 35, 3) := by decide +kernel
theorem dX11_mass_37 : decode cX11_mass 37 = .ok (.getfield 119, 3) := by decide +kernel
theorem dX11_mass_40 : decode cX11_mass 40 = .ok (.invokevirtual 185, 3) := by decide +kernel
theorem dX11_mass_43 : decode cX11_mass 43 = .ok (.aload_n 0, 1) := by decide +kernel
theorem dX11_mass_44 : decode cX11_mass 44 = .ok (.getfield 59, 3) := by decide +kernel
theorem dX11_mass_47 : decode cX11_mass 47 = .ok (.invokevirtual 206, 3) := by decide +kernel
theorem dX11_mass_50 : decode cX11_mass 50 = .ok (.aload_n 0, 1) := by decide +kernel
theorem dX11_mass_51 : decode cX11_mass 51 = .ok (.getfield 94, 3) := by decide +kernel
theorem dX11_mass_54 : decode cX11_mass 54 = .ok (.lconst 0, 1) := by decide +kernel
theorem dX11_mass_55 : decode cX11_mass 55 = .ok (.lconst 1, 1) := by decide +kernel
theorem dX11_mass_56 : decode cX11_mass 56 = .ok (.invokevirtual 215, 3) := by decide +kernel
theorem dX11_mass_59 : decode cX11_mass 59 = .ok (.iconst 0, 1) := by decide +kernel
theorem dX11_mass_60 : decode cX11_mass 60 = .ok (.istore_n 2, 1) := by decide +kernel
theorem dX11_mass_61 : decode cX11_mass 61 = .ok (.iload_n 2, 1) := by decide +kernel
theorem dX11_mass_62 : decode cX11_mass 62 = .ok (.aload_n 0, 1) := by decide +kernel
theorem dX11_mass_63 : decode cX11_mass 63 = .ok (.getfield 35, 3) := by decide +kernel
theorem dX11_mass_66 : decode cX11_mass 66 = .ok (.getfield 119, 3) := by decide +kernel
theorem dX11_mass_69 : decode cX11_mass 69 = .ok (.getfield 126, 3) := by decide +kernel
theorem dX11_mass_72 : decode cX11_mass 72 = .ok (.if_icmp .ge 25, 3) := by decide +kernel
theorem dX11_mass_75 : decode cX11_mass 75 = .ok (.aload_n 0, 1) := by decide +kernel
theorem dX11_mass_76 : decode cX11_mass 76 = .ok (.getfield 94, 3) := by decide +kernel
theorem dX11_mass_79 : decode cX11_mass 79 = .ok (.aload_n 0, 1) := by decide +kernel
theorem dX11_mass_80 : decode cX11_mass 80 = .ok (.getfield 59, 3) := by decide +kernel
theorem dX11_mass_83 : decode cX11_mass 83 = .ok (.getfield 209, 3) := by decide +kernel
theorem dX11_mass_86 : decode cX11_mass 86 = .ok (.iload_n 2, 1) := by decide +kernel
theorem dX11_mass_87 : decode cX11_mass 87 = .ok (.aaload, 1) := by decide +kernel
theorem dX11_mass_88 : decode cX11_mass 88 = .ok (.invokevirtual 219, 3) := by decide +kernel
theorem dX11_mass_91 : decode cX11_mass 91 = .ok (.iinc 2 1, 3) := by decide +kernel
theorem dX11_mass_94 : decode cX11_mass 94 = .ok (.goto (-33), 3) := by decide +kernel
theorem dX11_mass_97 : decode cX11_mass 97 = .ok (.aload_n 0, 1) := by decide +kernel
theorem dX11_mass_98 : decode cX11_mass 98 = .ok (.getfield 94, 3) := by decide +kernel
theorem dX11_mass_101 : decode cX11_mass 101 = .ok (.iload_n 1, 1) := by decide +kernel
theorem dX11_mass_102 : decode cX11_mass 102 = .ok (.invokevirtual 177, 3) := by decide +kernel
theorem dX11_mass_105 : decode cX11_mass 105 = .ok (.lreturn, 1) := by decide +kernel
theorem dX11_weighed_0 : decode cX11_weighed 0 = .ok (.aload_n 0, 1) := by decide +kernel
theorem dX11_weighed_1 : decode cX11_weighed 1 = .ok (.invokevirtual 147, 3) := by decide +kernel
theorem dX11_weighed_4 : decode cX11_weighed 4 = .ok (.ifCond .eq 20, 3) := by decide +kernel
theorem dX11_weighed_7 : decode cX11_weighed 7 = .ok (.iload_n 1, 1) := by decide +kernel
theorem dX11_weighed_8 : decode cX11_weighed 8 = .ok (.iconst 0, 1) := by decide +kernel
theorem dX11_weighed_9 : decode cX11_weighed 9 = .ok (.bipush 7, 2) := by decide +kernel
theorem dX11_weighed_11 : decode cX11_weighed 11 = .ok (.invokestatic 133, 3) := by decide +kernel
theorem dX11_weighed_14 : decode cX11_weighed 14 = .ok (.ifCond .eq 10, 3) := by decide +kernel
theorem dX11_weighed_17 : decode cX11_weighed 17 = .ok (.iload_n 2, 1) := by decide +kernel
theorem dX11_weighed_18 : decode cX11_weighed 18 = .ok (.invokestatic 170, 3) := by decide +kernel
theorem dX11_weighed_21 : decode cX11_weighed 21 = .ok (.ifCond .ne 7, 3) := by decide +kernel
theorem dX11_weighed_24 : decode cX11_weighed 24 = .ok (.ldc2_w 151, 3) := by decide +kernel
theorem dX11_weighed_27 : decode cX11_weighed 27 = .ok (.lreturn, 1) := by decide +kernel
theorem dX11_weighed_28 : decode cX11_weighed 28 = .ok (.aload_n 0, 1) := by decide +kernel
theorem dX11_weighed_29 : decode cX11_weighed 29 = .ok (.getfield 35, 3) := by decide +kernel
theorem dX11_weighed_32 : decode cX11_weighed 32 = .ok (.getfield 119, 3) := by decide +kernel
theorem dX11_weighed_35 : decode cX11_weighed 35 = .ok (.iload_n 1, 1) := by decide +kernel
theorem dX11_weighed_36 : decode cX11_weighed 36 = .ok (.aload_n 0, 1) := by decide +kernel
theorem dX11_weighed_37 : decode cX11_weighed 37 = .ok (.getfield 94, 3) := by decide +kernel
theorem dX11_weighed_40 : decode cX11_weighed 40 = .ok (.invokevirtual 222, 3) := by decide +kernel
theorem dX11_weighed_43 : decode cX11_weighed 43 = .ok (.aload_n 0, 1) := by decide +kernel
theorem dX11_weighed_44 : decode cX11_weighed 44 = .ok (.getfield 94, 3) := by decide +kernel
theorem dX11_weighed_47 : decode cX11_weighed 47 = .ok (.iload_n 2, 1) := by decide +kernel
theorem dX11_weighed_48 : decode cX11_weighed 48 = .ok (.invokevirtual 177, 3) := by decide +kernel
theorem dX11_weighed_51 : decode cX11_weighed 51 = .ok (.lreturn, 1) := by decide +kernel
theorem dX11_kernel_0 : decode cX11_kernel 0 = .ok (.aload_n 0, 1) := by decide +kernel
theorem dX11_kernel_1 : decode cX11_kernel 1 = .ok (.invokevirtual 147, 3) := by decide +kernel
theorem dX11_kernel_4 : decode cX11_kernel 4 = .ok (.ifCond .eq 21, 3) := by decide +kernel
theorem dX11_kernel_7 : decode cX11_kernel 7 = .ok (.iload_n 1, 1) := by decide +kernel
theorem dX11_kernel_8 : decode cX11_kernel 8 = .ok (.bipush (-8), 2) := by decide +kernel
theorem dX11_kernel_10 : decode cX11_kernel 10 = .ok (.bipush 8, 2) := by decide +kernel
theorem dX11_kernel_12 : decode cX11_kernel 12 = .ok (.invokestatic 133, 3) := by decide +kernel
theorem dX11_kernel_15 : decode cX11_kernel 15 = .ok (.ifCond .eq 10, 3) := by decide +kernel
theorem dX11_kernel_18 : decode cX11_kernel 18 = .ok (.iload_n 2, 1) := by decide +kernel
theorem dX11_kernel_19 : decode cX11_kernel 19 = .ok (.invokestatic 170, 3) := by decide +kernel
theorem dX11_kernel_22 : decode cX11_kernel 22 = .ok (.ifCond .ne 7, 3) := by decide +kernel
theorem dX11_kernel_25 : decode cX11_kernel 25 = .ok (.ldc2_w 151, 3) := by decide +kernel
theorem dX11_kernel_28 : decode cX11_kernel 28 = .ok (.lreturn, 1) := by decide +kernel
theorem dX11_kernel_29 : decode cX11_kernel 29 = .ok (.aload_n 0, 1) := by decide +kernel
theorem dX11_kernel_30 : decode cX11_kernel 30 = .ok (.getfield 59, 3) := by decide +kernel
theorem dX11_kernel_33 : decode cX11_kernel 33 = .ok (.aload_n 0, 1) := by decide +kernel
theorem dX11_kernel_34 : decode cX11_kernel 34 = .ok (.getfield 35, 3) := by decide +kernel
theorem dX11_kernel_37 : decode cX11_kernel 37 = .ok (.getfield 119, 3) := by decide +kernel
theorem dX11_kernel_40 : decode cX11_kernel 40 = .ok (.invokevirtual 185, 3) := by decide +kernel
theorem dX11_kernel_43 : decode cX11_kernel 43 = .ok (.aload_n 0, 1) := by decide +kernel
theorem dX11_kernel_44 : decode cX11_kernel 44 = .ok (.getfield 59, 3) := by decide +kernel
theorem dX11_kernel_47 : decode cX11_kernel 47 = .ok (.iload_n 1, 1) := by decide +kernel
theorem dX11_kernel_48 : decode cX11_kernel 48 = .ok (.aload_n 0, 1) := by decide +kernel
theorem dX11_kernel_49 : decode cX11_kernel 49 = .ok (.getfield 94, 3) := by decide +kernel
theorem dX11_kernel_52 : decode cX11_kernel 52 = .ok (.invokevirtual 225, 3) := by decide +kernel
theorem dX11_kernel_55 : decode cX11_kernel 55 = .ok (.aload_n 0, 1) := by decide +kernel
theorem dX11_kernel_56 : decode cX11_kernel 56 = .ok (.getfield 94, 3) := by decide +kernel
theorem dX11_kernel_59 : decode cX11_kernel 59 = .ok (.iload_n 2, 1) := by decide +kernel
theorem dX11_kernel_60 : decode cX11_kernel 60 = .ok (.invokevirtual 177, 3) := by decide +kernel
theorem dX11_kernel_63 : decode cX11_kernel 63 = .ok (.lreturn, 1) := by decide +kernel
theorem dX11_apart_0 : decode cX11_apart 0 = .ok (.aload_n 0, 1) := by decide +kernel
theorem dX11_apart_1 : decode cX11_apart 1 = .ok (.invokevirtual 147, 3) := by decide +kernel
theorem dX11_apart_4 : decode cX11_apart 4 = .ok (.ifCond .eq 16, 3) := by decide +kernel
theorem dX11_apart_7 : decode cX11_apart 7 = .ok (.aload_n 0, 1) := by decide +kernel
theorem dX11_apart_8 : decode cX11_apart 8 = .ok (.getfield 35, 3) := by decide +kernel
theorem dX11_apart_11 : decode cX11_apart 11 = .ok (.getfield 119, 3) := by decide +kernel
theorem dX11_apart_14 : decode cX11_apart 14 = .ok (.invokevirtual 228, 3) := by decide +kernel
theorem dX11_apart_17 : decode cX11_apart 17 = .ok (.goto 6, 3) := by decide +kernel
theorem dX11_apart_20 : decode cX11_apart 20 = .ok (.ldc2_w 151, 3) := by decide +kernel
theorem dX11_apart_23 : decode cX11_apart 23 = .ok (.lreturn, 1) := by decide +kernel
theorem dX11_letter_0 : decode cX11_letter 0 = .ok (.aload_n 0, 1) := by decide +kernel
theorem dX11_letter_1 : decode cX11_letter 1 = .ok (.invokevirtual 147, 3) := by decide +kernel
theorem dX11_letter_4 : decode cX11_letter 4 = .ok (.ifCond .eq 8, 3) := by decide +kernel
theorem dX11_letter_7 : decode cX11_letter 7 = .ok (.iload_n 1, 1) := by decide +kernel
theorem dX11_letter_8 : decode cX11_letter 8 = .ok (.iconst (-1), 1) := by decide +kernel
theorem dX11_letter_9 : decode cX11_letter 9 = .ok (.if_icmp .ge 5, 3) := by decide +kernel
theorem dX11_letter_12 : decode cX11_letter 12 = .ok (.iconst (-1), 1) := by decide +kernel
theorem dX11_letter_13 : decode cX11_letter 13 = .ok (.ireturn, 1) := by decide +kernel
theorem dX11_letter_14 : decode cX11_letter 14 = .ok (.aload_n 0, 1) := by decide +kernel
theorem dX11_letter_15 : decode cX11_letter 15 = .ok (.getfield 28, 3) := by decide +kernel
theorem dX11_letter_18 : decode cX11_letter 18 = .ok (.aload_n 0, 1) := by decide +kernel
theorem dX11_letter_19 : decode cX11_letter 19 = .ok (.getfield 35, 3) := by decide +kernel
theorem dX11_letter_22 : decode cX11_letter 22 = .ok (.getfield 119, 3) := by decide +kernel
theorem dX11_letter_25 : decode cX11_letter 25 = .ok (.getfield 137, 3) := by decide +kernel
theorem dX11_letter_28 : decode cX11_letter 28 = .ok (.aload_n 0, 1) := by decide +kernel
theorem dX11_letter_29 : decode cX11_letter 29 = .ok (.getfield 35, 3) := by decide +kernel
theorem dX11_letter_32 : decode cX11_letter 32 = .ok (.getfield 119, 3) := by decide +kernel
theorem dX11_letter_35 : decode cX11_letter 35 = .ok (.getfield 126, 3) := by decide +kernel
theorem dX11_letter_38 : decode cX11_letter 38 = .ok (.aload_n 0, 1) := by decide +kernel
theorem dX11_letter_39 : decode cX11_letter 39 = .ok (.getfield 35, 3) := by decide +kernel
theorem dX11_letter_42 : decode cX11_letter 42 = .ok (.getfield 119, 3) := by decide +kernel
theorem dX11_letter_45 : decode cX11_letter 45 = .ok (.getfield 141, 3) := by decide +kernel
theorem dX11_letter_48 : decode cX11_letter 48 = .ok (.invokevirtual 232, 3) := by decide +kernel
theorem dX11_letter_51 : decode cX11_letter 51 = .ok (.aload_n 0, 1) := by decide +kernel
theorem dX11_letter_52 : decode cX11_letter 52 = .ok (.getfield 28, 3) := by decide +kernel
theorem dX11_letter_55 : decode cX11_letter 55 = .ok (.iload_n 1, 1) := by decide +kernel
theorem dX11_letter_56 : decode cX11_letter 56 = .ok (.invokevirtual 236, 3) := by decide +kernel
theorem dX11_letter_59 : decode cX11_letter 59 = .ok (.ireturn, 1) := by decide +kernel
theorem dX11_mirror_0 : decode cX11_mirror 0 = .ok (.aload_n 0, 1) := by decide +kernel
theorem dX11_mirror_1 : decode cX11_mirror 1 = .ok (.invokevirtual 147, 3) := by decide +kernel
theorem dX11_mirror_4 : decode cX11_mirror 4 = .ok (.ifCond .ne 5, 3) := by decide +kernel
theorem dX11_mirror_7 : decode cX11_mirror 7 = .ok (.iconst (-1), 1) := by decide +kernel
theorem dX11_mirror_8 : decode cX11_mirror 8 = .ok (.ireturn, 1) := by decide +kernel
theorem dX11_mirror_9 : decode cX11_mirror 9 = .ok (.aload_n 0, 1) := by decide +kernel
theorem dX11_mirror_10 : decode cX11_mirror 10 = .ok (.getfield 35, 3) := by decide +kernel
theorem dX11_mirror_13 : decode cX11_mirror 13 = .ok (.getfield 119, 3) := by decide +kernel
theorem dX11_mirror_16 : decode cX11_mirror 16 = .ok (.invokevirtual 240, 3) := by decide +kernel
theorem dX11_mirror_19 : decode cX11_mirror 19 = .ok (.aload_n 0, 1) := by decide +kernel
theorem dX11_mirror_20 : decode cX11_mirror 20 = .ok (.getfield 35, 3) := by decide +kernel
theorem dX11_mirror_23 : decode cX11_mirror 23 = .ok (.getfield 119, 3) := by decide +kernel
theorem dX11_mirror_26 : decode cX11_mirror 26 = .ok (.getfield 126, 3) := by decide +kernel
