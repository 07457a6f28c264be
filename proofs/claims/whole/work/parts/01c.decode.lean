theorem dX11_mirror_29 : decode cX11_mirror 29 = .ok (.ireturn, 1) := by decide +kernel
theorem dX11_shift_0 : decode cX11_shift 0 = .ok (.aload_n 0, 1) := by decide +kernel
theorem dX11_shift_1 : decode cX11_shift 1 = .ok (.invokevirtual 147, 3) := by decide +kernel
theorem dX11_shift_4 : decode cX11_shift 4 = .ok (.ifCond .eq 14, 3) := by decide +kernel
theorem dX11_shift_7 : decode cX11_shift 7 = .ok (.iload_n 1, 1) := by decide +kernel
theorem dX11_shift_8 : decode cX11_shift 8 = .ok (.bipush (-12), 2) := by decide +kernel
theorem dX11_shift_10 : decode cX11_shift 10 = .ok (.bipush 12, 2) := by decide +kernel
theorem dX11_shift_12 : decode cX11_shift 12 = .ok (.invokestatic 133, 3) := by decide +kernel
theorem dX11_shift_15 : decode cX11_shift 15 = .ok (.ifCond .ne 5, 3) := by decide +kernel
theorem dX11_shift_18 : decode cX11_shift 18 = .ok (.iconst (-1), 1) := by decide +kernel
theorem dX11_shift_19 : decode cX11_shift 19 = .ok (.ireturn, 1) := by decide +kernel
theorem dX11_shift_20 : decode cX11_shift 20 = .ok (.aload_n 0, 1) := by decide +kernel
theorem dX11_shift_21 : decode cX11_shift 21 = .ok (.getfield 87, 3) := by decide +kernel
theorem dX11_shift_24 : decode cX11_shift 24 = .ok (.aload_n 0, 1) := by decide +kernel
theorem dX11_shift_25 : decode cX11_shift 25 = .ok (.getfield 35, 3) := by decide +kernel
theorem dX11_shift_28 : decode cX11_shift 28 = .ok (.getfield 119, 3) := by decide +kernel
theorem dX11_shift_31 : decode cX11_shift 31 = .ok (.invokevirtual 243, 3) := by decide +kernel
theorem dX11_shift_34 : decode cX11_shift 34 = .ok (.aload_n 0, 1) := by decide +kernel
theorem dX11_shift_35 : decode cX11_shift 35 = .ok (.getfield 87, 3) := by decide +kernel
theorem dX11_shift_38 : decode cX11_shift 38 = .ok (.iload_n 1, 1) := by decide +kernel
theorem dX11_shift_39 : decode cX11_shift 39 = .ok (.invokevirtual 246, 3) := by decide +kernel
theorem dX11_shift_42 : decode cX11_shift 42 = .ok (.aload_n 0, 1) := by decide +kernel
theorem dX11_shift_43 : decode cX11_shift 43 = .ok (.invokevirtual 249, 3) := by decide +kernel
theorem dX11_shift_46 : decode cX11_shift 46 = .ok (.ireturn, 1) := by decide +kernel
theorem dX11_tune_0 : decode cX11_tune 0 = .ok (.iload_n 1, 1) := by decide +kernel
theorem dX11_tune_1 : decode cX11_tune 1 = .ok (.ifCond .eq 18, 3) := by decide +kernel
theorem dX11_tune_4 : decode cX11_tune 4 = .ok (.aload_n 0, 1) := by decide +kernel
theorem dX11_tune_5 : decode cX11_tune 5 = .ok (.getfield 35, 3) := by decide +kernel
theorem dX11_tune_8 : decode cX11_tune 8 = .ok (.getfield 119, 3) := by decide +kernel
theorem dX11_tune_11 : decode cX11_tune 11 = .ok (.getfield 126, 3) := by decide +kernel
theorem dX11_tune_14 : decode cX11_tune 14 = .ok (.iconst 1, 1) := by decide +kernel
theorem dX11_tune_15 : decode cX11_tune 15 = .ok (.isub, 1) := by decide +kernel
theorem dX11_tune_16 : decode cX11_tune 16 = .ok (.goto 15, 3) := by decide +kernel
theorem dX11_tune_19 : decode cX11_tune 19 = .ok (.aload_n 0, 1) := by decide +kernel
theorem dX11_tune_20 : decode cX11_tune 20 = .ok (.getfield 35, 3) := by decide +kernel
theorem dX11_tune_23 : decode cX11_tune 23 = .ok (.getfield 119, 3) := by decide +kernel
theorem dX11_tune_26 : decode cX11_tune 26 = .ok (.getfield 126, 3) := by decide +kernel
theorem dX11_tune_29 : decode cX11_tune 29 = .ok (.iconst 2, 1) := by decide +kernel
theorem dX11_tune_30 : decode cX11_tune 30 = .ok (.isub, 1) := by decide +kernel
theorem dX11_tune_31 : decode cX11_tune 31 = .ok (.istore 4, 2) := by decide +kernel
theorem dX11_tune_33 : decode cX11_tune 33 = .ok (.aload_n 0, 1) := by decide +kernel
theorem dX11_tune_34 : decode cX11_tune 34 = .ok (.invokevirtual 147, 3) := by decide +kernel
theorem dX11_tune_37 : decode cX11_tune 37 = .ok (.ifCond .eq 24, 3) := by decide +kernel
theorem dX11_tune_40 : decode cX11_tune 40 = .ok (.iload_n 2, 1) := by decide +kernel
theorem dX11_tune_41 : decode cX11_tune 41 = .ok (.iconst 0, 1) := by decide +kernel
theorem dX11_tune_42 : decode cX11_tune 42 = .ok (.iload 4, 2) := by decide +kernel
theorem dX11_tune_44 : decode cX11_tune 44 = .ok (.invokestatic 133, 3) := by decide +kernel
theorem dX11_tune_47 : decode cX11_tune 47 = .ok (.ifCond .eq 14, 3) := by decide +kernel
theorem dX11_tune_50 : decode cX11_tune 50 = .ok (.iload_n 3, 1) := by decide +kernel
theorem dX11_tune_51 : decode cX11_tune 51 = .ok (.bipush (-6), 2) := by decide +kernel
theorem dX11_tune_53 : decode cX11_tune 53 = .ok (.bipush 6, 2) := by decide +kernel
theorem dX11_tune_55 : decode cX11_tune 55 = .ok (.invokestatic 133, 3) := by decide +kernel
theorem dX11_tune_58 : decode cX11_tune 58 = .ok (.ifCond .ne 5, 3) := by decide +kernel
theorem dX11_tune_61 : decode cX11_tune 61 = .ok (.iconst (-1), 1) := by decide +kernel
theorem dX11_tune_62 : decode cX11_tune 62 = .ok (.ireturn, 1) := by decide +kernel
theorem dX11_tune_63 : decode cX11_tune 63 = .ok (.aload_n 0, 1) := by decide +kernel
theorem dX11_tune_64 : decode cX11_tune 64 = .ok (.getfield 87, 3) := by decide +kernel
theorem dX11_tune_67 : decode cX11_tune 67 = .ok (.aload_n 0, 1) := by decide +kernel
theorem dX11_tune_68 : decode cX11_tune 68 = .ok (.getfield 35, 3) := by decide +kernel
theorem dX11_tune_71 : decode cX11_tune 71 = .ok (.getfield 119, 3) := by decide +kernel
theorem dX11_tune_74 : decode cX11_tune 74 = .ok (.invokevirtual 243, 3) := by decide +kernel
theorem dX11_tune_77 : decode cX11_tune 77 = .ok (.iload_n 1, 1) := by decide +kernel
theorem dX11_tune_78 : decode cX11_tune 78 = .ok (.ifCond .eq 16, 3) := by decide +kernel
theorem dX11_tune_81 : decode cX11_tune 81 = .ok (.aload_n 0, 1) := by decide +kernel
theorem dX11_tune_82 : decode cX11_tune 82 = .ok (.getfield 87, 3) := by decide +kernel
theorem dX11_tune_85 : decode cX11_tune 85 = .ok (.getfield 137, 3) := by decide +kernel
theorem dX11_tune_88 : decode cX11_tune 88 = .ok (.iload_n 2, 1) := by decide +kernel
theorem dX11_tune_89 : decode cX11_tune 89 = .ok (.iload_n 3, 1) := by decide +kernel
theorem dX11_tune_90 : decode cX11_tune 90 = .ok (.iastore, 1) := by decide +kernel
theorem dX11_tune_91 : decode cX11_tune 91 = .ok (.goto 13, 3) := by decide +kernel
theorem dX11_tune_94 : decode cX11_tune 94 = .ok (.aload_n 0, 1) := by decide +kernel
theorem dX11_tune_95 : decode cX11_tune 95 = .ok (.getfield 87, 3) := by decide +kernel
theorem dX11_tune_98 : decode cX11_tune 98 = .ok (.getfield 141, 3) := by decide +kernel
theorem dX11_tune_101 : decode cX11_tune 101 = .ok (.iload_n 2, 1) := by decide +kernel
theorem dX11_tune_102 : decode cX11_tune 102 = .ok (.iload_n 3, 1) := by decide +kernel
theorem dX11_tune_103 : decode cX11_tune 103 = .ok (.iastore, 1) := by decide +kernel
theorem dX11_tune_104 : decode cX11_tune 104 = .ok (.aload_n 0, 1) := by decide +kernel
theorem dX11_tune_105 : decode cX11_tune 105 = .ok (.invokevirtual 249, 3) := by decide +kernel
theorem dX11_tune_108 : decode cX11_tune 108 = .ok (.ireturn, 1) := by decide +kernel
theorem dX11_table_0 : decode cX11_table 0 = .ok (.iload_n 1, 1) := by decide +kernel
theorem dX11_table_1 : decode cX11_table 1 = .ok (.invokestatic 252, 3) := by decide +kernel
theorem dX11_table_4 : decode cX11_table 4 = .ok (.ifCond .eq 12, 3) := by decide +kernel
theorem dX11_table_7 : decode cX11_table 7 = .ok (.iload_n 2, 1) := by decide +kernel
theorem dX11_table_8 : decode cX11_table 8 = .ok (.iconst 1, 1) := by decide +kernel
theorem dX11_table_9 : decode cX11_table 9 = .ok (.iconst 5, 1) := by decide +kernel
theorem dX11_table_10 : decode cX11_table 10 = .ok (.invokestatic 133, 3) := by decide +kernel
theorem dX11_table_13 : decode cX11_table 13 = .ok (.ifCond .ne 5, 3) := by decide +kernel
theorem dX11_table_16 : decode cX11_table 16 = .ok (.iconst 0, 1) := by decide +kernel
theorem dX11_table_17 : decode cX11_table 17 = .ok (.ireturn, 1) := by decide +kernel
theorem dX11_table_18 : decode cX11_table 18 = .ok (.aload_n 0, 1) := by decide +kernel
theorem dX11_table_19 : decode cX11_table 19 = .ok (.getfield 35, 3) := by decide +kernel
theorem dX11_table_22 : decode cX11_table 22 = .ok (.getfield 255, 3) := by decide +kernel
theorem dX11_table_25 : decode cX11_table 25 = .ok (.iload_n 1, 1) := by decide +kernel
theorem dX11_table_26 : decode cX11_table 26 = .ok (.aaload, 1) := by decide +kernel
theorem dX11_table_27 : decode cX11_table 27 = .ok (.iload_n 2, 1) := by decide +kernel
theorem dX11_table_28 : decode cX11_table 28 = .ok (.invokevirtual 259, 3) := by decide +kernel
theorem dX11_table_31 : decode cX11_table 31 = .ok (.iconst 1, 1) := by decide +kernel
theorem dX11_table_32 : decode cX11_table 32 = .ok (.ireturn, 1) := by decide +kernel
theorem dX11_write_0 : decode cX11_write 0 = .ok (.iload_n 1, 1) := by decide +kernel
theorem dX11_write_1 : decode cX11_write 1 = .ok (.invokestatic 252, 3) := by decide +kernel
theorem dX11_write_4 : decode cX11_write 4 = .ok (.ifCond .eq 14, 3) := by decide +kernel
theorem dX11_write_7 : decode cX11_write 7 = .ok (.aload_n 0, 1) := by decide +kernel
theorem dX11_write_8 : decode cX11_write 8 = .ok (.getfield 12, 3) := by decide +kernel
theorem dX11_write_11 : decode cX11_write 11 = .ok (.iload_n 2, 1) := by decide +kernel
theorem dX11_write_12 : decode cX11_write 12 = .ok (.invokevirtual 109, 3) := by decide +kernel
theorem dX11_write_15 : decode cX11_write 15 = .ok (.ifCond .ne 5, 3) := by decide +kernel
theorem dX11_write_18 : decode cX11_write 18 = .ok (.iconst (-1), 1) := by decide +kernel
theorem dX11_write_19 : decode cX11_write 19 = .ok (.ireturn, 1) := by decide +kernel
theorem dX11_write_20 : decode cX11_write 20 = .ok (.aload_n 0, 1) := by decide +kernel
theorem dX11_write_21 : decode cX11_write 21 = .ok (.getfield 21, 3) := by decide +kernel
theorem dX11_write_24 : decode cX11_write 24 = .ok (.aload_n 0, 1) := by decide +kernel
theorem dX11_write_25 : decode cX11_write 25 = .ok (.getfield 12, 3) := by decide +kernel
theorem dX11_write_28 : decode cX11_write 28 = .ok (.iload_n 2, 1) := by decide +kernel
theorem dX11_write_29 : decode cX11_write 29 = .ok (.iconst 0, 1) := by decide +kernel
theorem dX11_write_30 : decode cX11_write 30 = .ok (.invokevirtual 112, 3) := by decide +kernel
theorem dX11_write_33 : decode cX11_write 33 = .ok (.istore_n 3, 1) := by decide +kernel
theorem dX11_write_34 : decode cX11_write 34 = .ok (.aload_n 0, 1) := by decide +kernel
theorem dX11_write_35 : decode cX11_write 35 = .ok (.getfield 12, 3) := by decide +kernel
theorem dX11_write_38 : decode cX11_write 38 = .ok (.invokevirtual 116, 3) := by decide +kernel
theorem dX11_write_41 : decode cX11_write 41 = .ok (.iload_n 3, 1) := by decide +kernel
theorem dX11_write_42 : decode cX11_write 42 = .ok (.ifCond .eq 5, 3) := by decide +kernel
theorem dX11_write_45 : decode cX11_write 45 = .ok (.iload_n 3, 1) := by decide +kernel
theorem dX11_write_46 : decode cX11_write 46 = .ok (.ireturn, 1) := by decide +kernel
theorem dX11_write_47 : decode cX11_write 47 = .ok (.aload_n 0, 1) := by decide +kernel
theorem dX11_write_48 : decode cX11_write 48 = .ok (.getfield 35, 3) := by decide +kernel
theorem dX11_write_51 : decode cX11_write 51 = .ok (.getfield 255, 3) := by decide +kernel
theorem dX11_write_54 : decode cX11_write 54 = .ok (.iload_n 1, 1) := by decide +kernel
theorem dX11_write_55 : decode cX11_write 55 = .ok (.aaload, 1) := by decide +kernel
theorem dX11_write_56 : decode cX11_write 56 = .ok (.aload_n 0, 1) := by decide +kernel
theorem dX11_write_57 : decode cX11_write 57 = .ok (.getfield 21, 3) := by decide +kernel
theorem dX11_write_60 : decode cX11_write 60 = .ok (.invokevirtual 262, 3) := by decide +kernel
theorem dX11_write_63 : decode cX11_write 63 = .ok (.aload_n 0, 1) := by decide +kernel
theorem dX11_write_64 : decode cX11_write 64 = .ok (.getfield 35, 3) := by decide +kernel
theorem dX11_write_67 : decode cX11_write 67 = .ok (.getfield 255, 3) := by decide +kernel
theorem dX11_write_70 : decode cX11_write 70 = .ok (.iload_n 1, 1) := by decide +kernel
theorem dX11_write_71 : decode cX11_write 71 = .ok (.aaload, 1) := by decide +kernel
theorem dX11_write_72 : decode cX11_write 72 = .ok (.getfield 263, 3) := by decide +kernel
theorem dX11_write_75 : decode cX11_write 75 = .ok (.ireturn, 1) := by decide +kernel
theorem dX11_read_0 : decode cX11_read 0 = .ok (.iload_n 1, 1) := by decide +kernel
theorem dX11_read_1 : decode cX11_read 1 = .ok (.invokestatic 252, 3) := by decide +kernel
theorem dX11_read_4 : decode cX11_read 4 = .ok (.ifCond .eq 8, 3) := by decide +kernel
theorem dX11_read_7 : decode cX11_read 7 = .ok (.iload_n 2, 1) := by decide +kernel
theorem dX11_read_8 : decode cX11_read 8 = .ok (.iconst (-1), 1) := by decide +kernel
theorem dX11_read_9 : decode cX11_read 9 = .ok (.if_icmp .ge 5, 3) := by decide +kernel
theorem dX11_read_12 : decode cX11_read 12 = .ok (.iconst (-1), 1) := by decide +kernel
theorem dX11_read_13 : decode cX11_read 13 = .ok (.ireturn, 1) := by decide +kernel
theorem dX11_read_14 : decode cX11_read 14 = .ok (.aload_n 0, 1) := by decide +kernel
theorem dX11_read_15 : decode cX11_read 15 = .ok (.getfield 35, 3) := by decide +kernel
theorem dX11_read_18 : decode cX11_read 18 = .ok (.getfield 255, 3) := by decide +kernel
theorem dX11_read_21 : decode cX11_read 21 = .ok (.iload_n 1, 1) := by decide +kernel
theorem dX11_read_22 : decode cX11_read 22 = .ok (.aaload, 1) := by decide +kernel
theorem dX11_read_23 : decode cX11_read 23 = .ok (.astore_n 3, 1) := by decide +kernel
theorem dX11_read_24 : decode cX11_read 24 = .ok (.aload_n 3, 1) := by decide +kernel
theorem dX11_read_25 : decode cX11_read 25 = .ok (.getfield 263, 3) := by decide +kernel
theorem dX11_read_28 : decode cX11_read 28 = .ok (.ifCond .ne 6, 3) := by decide +kernel
theorem dX11_read_31 : decode cX11_read 31 = .ok (.bipush (-2), 2) := by decide +kernel
theorem dX11_read_33 : decode cX11_read 33 = .ok (.ireturn, 1) := by decide +kernel
theorem dX11_read_34 : decode cX11_read 34 = .ok (.aload_n 0, 1) := by decide +kernel
theorem dX11_read_35 : decode cX11_read 35 = .ok (.getfield 28, 3) := by decide +kernel
theorem dX11_read_38 : decode cX11_read 38 = .ok (.aload_n 3, 1) := by decide +kernel
theorem dX11_read_39 : decode cX11_read 39 = .ok (.getfield 266, 3) := by decide +kernel
theorem dX11_read_42 : decode cX11_read 42 = .ok (.aload_n 3, 1) := by decide +kernel
theorem dX11_read_43 : decode cX11_read 43 = .ok (.getfield 263, 3) := by decide +kernel
theorem dX11_read_46 : decode cX11_read 46 = .ok (.aload_n 3, 1) := by decide +kernel
theorem dX11_read_47 : decode cX11_read 47 = .ok (.getfield 268, 3) := by decide +kernel
theorem dX11_read_50 : decode cX11_read 50 = .ok (.invokevirtual 232, 3) := by decide +kernel
theorem dX11_read_53 : decode cX11_read 53 = .ok (.aload_n 0, 1) := by decide +kernel
theorem dX11_read_54 : decode cX11_read 54 = .ok (.getfield 28, 3) := by decide +kernel
theorem dX11_read_57 : decode cX11_read 57 = .ok (.iload_n 2, 1) := by decide +kernel
theorem dX11_read_58 : decode cX11_read 58 = .ok (.invokevirtual 236, 3) := by decide +kernel
theorem dX11_read_61 : decode cX11_read 61 = .ok (.ireturn, 1) := by decide +kernel
theorem dX11_put_0 : decode cX11_put 0 = .ok (.iload_n 1, 1) := by decide +kernel
theorem dX11_put_1 : decode cX11_put 1 = .ok (.invokestatic 252, 3) := by decide +kernel
theorem dX11_put_4 : decode cX11_put 4 = .ok (.ifCond .ne 6, 3) := by decide +kernel
theorem dX11_put_7 : decode cX11_put 7 = .ok (.bipush (-99), 2) := by decide +kernel
theorem dX11_put_9 : decode cX11_put 9 = .ok (.ireturn, 1) := by decide +kernel
theorem dX11_put_10 : decode cX11_put 10 = .ok (.aload_n 0, 1) := by decide +kernel
theorem dX11_put_11 : decode cX11_put 11 = .ok (.getfield 35, 3) := by decide +kernel
theorem dX11_put_14 : decode cX11_put 14 = .ok (.getfield 255, 3) := by decide +kernel
theorem dX11_put_17 : decode cX11_put 17 = .ok (.iload_n 1, 1) := by decide +kernel
theorem dX11_put_18 : decode cX11_put 18 = .ok (.aaload, 1) := by decide +kernel
theorem dX11_put_19 : decode cX11_put 19 = .ok (.astore 5, 2) := by decide +kernel
theorem dX11_put_21 : decode cX11_put 21 = .ok (.aload 5, 2) := by decide +kernel
theorem dX11_put_23 : decode cX11_put 23 = .ok (.getfield 263, 3) := by decide +kernel
theorem dX11_put_26 : decode cX11_put 26 = .ok (.ifCond .ne 6, 3) := by decide +kernel
theorem dX11_put_29 : decode cX11_put 29 = .ok (.bipush (-100), 2) := by decide +kernel
theorem dX11_put_31 : decode cX11_put 31 = .ok (.ireturn, 1) := by decide +kernel
theorem dX11_put_32 : decode cX11_put 32 = .ok (.aload 5, 2) := by decide +kernel
theorem dX11_put_34 : decode cX11_put 34 = .ok (.iload_n 2, 1) := by decide +kernel
theorem dX11_put_35 : decode cX11_put 35 = .ok (.iload_n 3, 1) := by decide +kernel
theorem dX11_put_36 : decode cX11_put 36 = .ok (.invokevirtual 270, 3) := by decide +kernel
theorem dX11_put_39 : decode cX11_put 39 = .ok (.ifCond .ne 6, 3) := by decide +kernel
theorem dX11_put_42 : decode cX11_put 42 = .ok (.bipush (-99), 2) := by decide +kernel
theorem dX11_put_44 : decode cX11_put 44 = .ok (.ireturn, 1) := by decide +kernel
theorem dX11_put_45 : decode cX11_put 45 = .ok (.iload_n 2, 1) := by decide +kernel
theorem dX11_put_46 : decode cX11_put 46 = .ok (.iload 4, 2) := by decide +kernel
theorem dX11_put_48 : decode cX11_put 48 = .ok (.invokestatic 274, 3) := by decide +kernel
theorem dX11_put_51 : decode cX11_put 51 = .ok (.ifCond .ne 6, 3) := by decide +kernel
theorem dX11_put_54 : decode cX11_put 54 = .ok (.bipush (-101), 2) := by decide +kernel
theorem dX11_put_56 : decode cX11_put 56 = .ok (.ireturn, 1) := by decide +kernel
theorem dX11_put_57 : decode cX11_put 57 = .ok (.aload 5, 2) := by decide +kernel
theorem dX11_put_59 : decode cX11_put 59 = .ok (.iload_n 2, 1) := by decide +kernel
theorem dX11_put_60 : decode cX11_put 60 = .ok (.iload_n 3, 1) := by decide +kernel
theorem dX11_put_61 : decode cX11_put 61 = .ok (.invokevirtual 277, 3) := by decide +kernel
theorem dX11_put_64 : decode cX11_put 64 = .ok (.istore 6, 2) := by decide +kernel
theorem dX11_put_66 : decode cX11_put 66 = .ok (.aload 5, 2) := by decide +kernel
theorem dX11_put_68 : decode cX11_put 68 = .ok (.iload_n 2, 1) := by decide +kernel
theorem dX11_put_69 : decode cX11_put 69 = .ok (.iload_n 3, 1) := by decide +kernel
theorem dX11_put_70 : decode cX11_put 70 = .ok (.iload 4, 2) := by decide +kernel
theorem dX11_put_72 : decode cX11_put 72 = .ok (.invokevirtual 281, 3) := by decide +kernel
theorem dX11_put_75 : decode cX11_put 75 = .ok (.iload 6, 2) := by decide +kernel
theorem dX11_put_77 : decode cX11_put 77 = .ok (.ireturn, 1) := by decide +kernel
theorem dX11_told_0 : decode cX11_told 0 = .ok (.iload_n 1, 1) := by decide +kernel
theorem dX11_told_1 : decode cX11_told 1 = .ok (.invokestatic 252, 3) := by decide +kernel
theorem dX11_told_4 : decode cX11_told 4 = .ok (.ifCond .ne 6, 3) := by decide +kernel
theorem dX11_told_7 : decode cX11_told 7 = .ok (.bipush (-99), 2) := by decide +kernel
theorem dX11_told_9 : decode cX11_told 9 = .ok (.ireturn, 1) := by decide +kernel
theorem dX11_told_10 : decode cX11_told 10 = .ok (.aload_n 0, 1) := by decide +kernel
theorem dX11_told_11 : decode cX11_told 11 = .ok (.getfield 35, 3) := by decide +kernel
theorem dX11_told_14 : decode cX11_told 14 = .ok (.getfield 255, 3) := by decide +kernel
theorem dX11_told_17 : decode cX11_told 17 = .ok (.iload_n 1, 1) := by decide +kernel
theorem dX11_told_18 : decode cX11_told 18 = .ok (.aaload, 1) := by decide +kernel
theorem dX11_told_19 : decode cX11_told 19 = .ok (.astore 4, 2) := by decide +kernel
theorem dX11_told_21 : decode cX11_told 21 = .ok (.aload 4, 2) := by decide +kernel
theorem dX11_told_23 : decode cX11_told 23 = .ok (.getfield 263, 3) := by decide +kernel
theorem dX11_told_26 : decode cX11_told 26 = .ok (.ifCond .ne 6, 3) := by decide +kernel
theorem dX11_told_29 : decode cX11_told 29 = .ok (.bipush (-100), 2) := by decide +kernel
theorem dX11_told_31 : decode cX11_told 31 = .ok (.ireturn, 1) := by decide +kernel
theorem dX11_told_32 : decode cX11_told 32 = .ok (.iload_n 3, 1) := by decide +kernel
theorem dX11_told_33 : decode cX11_told 33 = .ok (.iconst (-1), 1) := by decide +kernel
theorem dX11_told_34 : decode cX11_told 34 = .ok (.if_icmp .ne 9, 3) := by decide +kernel
theorem dX11_told_37 : decode cX11_told 37 = .ok (.aload 4, 2) := by decide +kernel
theorem dX11_told_39 : decode cX11_told 39 = .ok (.getfield 263, 3) := by decide +kernel
theorem dX11_told_42 : decode cX11_told 42 = .ok (.ireturn, 1) := by decide +kernel
theorem dX11_told_43 : decode cX11_told 43 = .ok (.aload 4, 2) := by decide +kernel
theorem dX11_told_45 : decode cX11_told 45 = .ok (.iload_n 2, 1) := by decide +kernel
theorem dX11_told_46 : decode cX11_told 46 = .ok (.iload_n 3, 1) := by decide +kernel
theorem dX11_told_47 : decode cX11_told 47 = .ok (.invokevirtual 270, 3) := by decide +kernel
theorem dX11_told_50 : decode cX11_told 50 = .ok (.ifCond .eq 13, 3) := by decide +kernel
theorem dX11_told_53 : decode cX11_told 53 = .ok (.aload 4, 2) := by decide +kernel
theorem dX11_told_55 : decode cX11_told 55 = .ok (.iload_n 2, 1) := by decide +kernel
theorem dX11_told_56 : decode cX11_told 56 = .ok (.iload_n 3, 1) := by decide +kernel
theorem dX11_told_57 : decode cX11_told 57 = .ok (.invokevirtual 277, 3) := by decide +kernel
theorem dX11_told_60 : decode cX11_told 60 = .ok (.goto 5, 3) := by decide +kernel
theorem dX11_told_63 : decode cX11_told 63 = .ok (.bipush (-99), 2) := by decide +kernel
theorem dX11_told_65 : decode cX11_told 65 = .ok (.ireturn, 1) := by decide +kernel
theorem dX11_number_0 : decode cX11_number 0 = .ok (.aload_n 0, 1) := by decide +kernel
theorem dX11_number_1 : decode cX11_number 1 = .ok (.iload_n 1, 1) := by decide +kernel
theorem dX11_number_2 : decode cX11_number 2 = .ok (.invokevirtual 285, 3) := by decide +kernel
theorem dX11_number_5 : decode cX11_number 5 = .ok (.ifCond .eq 32, 3) := by decide +kernel
theorem dX11_number_8 : decode cX11_number 8 = .ok (.iload_n 2, 1) := by decide +kernel
theorem dX11_number_9 : decode cX11_number 9 = .ok (.iconst 0, 1) := by decide +kernel
theorem dX11_number_10 : decode cX11_number 10 = .ok (.aload_n 0, 1) := by decide +kernel
theorem dX11_number_11 : decode cX11_number 11 = .ok (.getfield 35, 3) := by decide +kernel
theorem dX11_number_14 : decode cX11_number 14 = .ok (.getfield 255, 3) := by decide +kernel
theorem dX11_number_17 : decode cX11_number 17 = .ok (.iload_n 1, 1) := by decide +kernel
theorem dX11_number_18 : decode cX11_number 18 = .ok (.aaload, 1) := by decide +kernel
theorem dX11_number_19 : decode cX11_number 19 = .ok (.getfield 263, 3) := by decide +kernel
theorem dX11_number_22 : decode cX11_number 22 = .ok (.invokestatic 133, 3) := by decide +kernel
theorem dX11_number_25 : decode cX11_number 25 = .ok (.ifCond .eq 12, 3) := by decide +kernel
theorem dX11_number_28 : decode cX11_number 28 = .ok (.iload_n 3, 1) := by decide +kernel
theorem dX11_number_29 : decode cX11_number 29 = .ok (.iconst 0, 1) := by decide +kernel
theorem dX11_number_30 : decode cX11_number 30 = .ok (.iload_n 2, 1) := by decide +kernel
theorem dX11_number_31 : decode cX11_number 31 = .ok (.invokestatic 133, 3) := by decide +kernel
theorem dX11_number_34 : decode cX11_number 34 = .ok (.ifCond .ne 7, 3) := by decide +kernel
theorem dX11_number_37 : decode cX11_number 37 = .ok (.ldc2_w 151, 3) := by decide +kernel
theorem dX11_number_40 : decode cX11_number 40 = .ok (.lreturn, 1) := by decide +kernel
theorem dX11_number_41 : decode cX11_number 41 = .ok (.aload_n 0, 1) := by decide +kernel
theorem dX11_number_42 : decode cX11_number 42 = .ok (.getfield 73, 3) := by decide +kernel
theorem dX11_number_45 : decode cX11_number 45 = .ok (.aload_n 0, 1) := by decide +kernel
theorem dX11_number_46 : decode cX11_number 46 = .ok (.getfield 35, 3) := by decide +kernel
theorem dX11_number_49 : decode cX11_number 49 = .ok (.getfield 255, 3) := by decide +kernel
theorem dX11_number_52 : decode cX11_number 52 = .ok (.iload_n 1, 1) := by decide +kernel
theorem dX11_number_53 : decode cX11_number 53 = .ok (.aaload, 1) := by decide +kernel
theorem dX11_number_54 : decode cX11_number 54 = .ok (.invokevirtual 288, 3) := by decide +kernel
theorem dX11_number_57 : decode cX11_number 57 = .ok (.aload_n 0, 1) := by decide +kernel
theorem dX11_number_58 : decode cX11_number 58 = .ok (.getfield 73, 3) := by decide +kernel
theorem dX11_number_61 : decode cX11_number 61 = .ok (.getfield 292, 3) := by decide +kernel
theorem dX11_number_64 : decode cX11_number 64 = .ok (.iload_n 2, 1) := by decide +kernel
theorem dX11_number_65 : decode cX11_number 65 = .ok (.aaload, 1) := by decide +kernel
theorem dX11_number_66 : decode cX11_number 66 = .ok (.iload_n 3, 1) := by decide +kernel
theorem dX11_number_67 : decode cX11_number 67 = .ok (.laload, 1) := by decide +kernel
theorem dX11_number_68 : decode cX11_number 68 = .ok (.lreturn, 1) := by decide +kernel
theorem dX11_value_0 : decode cX11_value 0 = .ok (.aload_n 0, 1) := by decide +kernel
theorem dX11_value_1 : decode cX11_value 1 = .ok (.iload_n 1, 1) := by decide +kernel
theorem dX11_value_2 : decode cX11_value 2 = .ok (.invokevirtual 285, 3) := by decide +kernel
theorem dX11_value_5 : decode cX11_value 5 = .ok (.ifCond .eq 34, 3) := by decide +kernel
theorem dX11_value_8 : decode cX11_value 8 = .ok (.iload_n 2, 1) := by decide +kernel
theorem dX11_value_9 : decode cX11_value 9 = .ok (.iconst 0, 1) := by decide +kernel
theorem dX11_value_10 : decode cX11_value 10 = .ok (.aload_n 0, 1) := by decide +kernel
theorem dX11_value_11 : decode cX11_value 11 = .ok (.getfield 35, 3) := by decide +kernel
theorem dX11_value_14 : decode cX11_value 14 = .ok (.getfield 255, 3) := by decide +kernel
theorem dX11_value_17 : decode cX11_value 17 = .ok (.iload_n 1, 1) := by decide +kernel
theorem dX11_value_18 : decode cX11_value 18 = .ok (.aaload, 1) := by decide +kernel
theorem dX11_value_19 : decode cX11_value 19 = .ok (.getfield 263, 3) := by decide +kernel
theorem dX11_value_22 : decode cX11_value 22 = .ok (.invokestatic 133, 3) := by decide +kernel
theorem dX11_value_25 : decode cX11_value 25 = .ok (.ifCond .eq 14, 3) := by decide +kernel
theorem dX11_value_28 : decode cX11_value 28 = .ok (.iload_n 3, 1) := by decide +kernel
theorem dX11_value_29 : decode cX11_value 29 = .ok (.bipush (-20), 2) := by decide +kernel
theorem dX11_value_31 : decode cX11_value 31 = .ok (.bipush 20, 2) := by decide +kernel
theorem dX11_value_33 : decode cX11_value 33 = .ok (.invokestatic 133, 3) := by decide +kernel
theorem dX11_value_36 : decode cX11_value 36 = .ok (.ifCond .ne 7, 3) := by decide +kernel
theorem dX11_value_39 : decode cX11_value 39 = .ok (.ldc2_w 151, 3) := by decide +kernel
theorem dX11_value_42 : decode cX11_value 42 = .ok (.lreturn, 1) := by decide +kernel
theorem dX11_value_43 : decode cX11_value 43 = .ok (.aload_n 0, 1) := by decide +kernel
theorem dX11_value_44 : decode cX11_value 44 = .ok (.getfield 35, 3) := by decide +kernel
theorem dX11_value_47 : decode cX11_value 47 = .ok (.getfield 255, 3) := by decide +kernel
theorem dX11_value_50 : decode cX11_value 50 = .ok (.iload_n 1, 1) := by decide +kernel
theorem dX11_value_51 : decode cX11_value 51 = .ok (.aaload, 1) := by decide +kernel
theorem dX11_value_52 : decode cX11_value 52 = .ok (.iconst 0, 1) := by decide +kernel
theorem dX11_value_53 : decode cX11_value 53 = .ok (.iload_n 2, 1) := by decide +kernel
theorem dX11_value_54 : decode cX11_value 54 = .ok (.iload_n 3, 1) := by decide +kernel
theorem dX11_value_55 : decode cX11_value 55 = .ok (.iconst 1, 1) := by decide +kernel
theorem dX11_value_56 : decode cX11_value 56 = .ok (.invokevirtual 296, 3) := by decide +kernel
theorem dX11_value_59 : decode cX11_value 59 = .ok (.lreturn, 1) := by decide +kernel
theorem dX11_below_0 : decode cX11_below 0 = .ok (.iload_n 1, 1) := by decide +kernel
theorem dX11_below_1 : decode cX11_below 1 = .ok (.invokestatic 252, 3) := by decide +kernel
theorem dX11_below_4 : decode cX11_below 4 = .ok (.ifCond .eq 27, 3) := by decide +kernel
theorem dX11_below_7 : decode cX11_below 7 = .ok (.iload_n 3, 1) := by decide +kernel
theorem dX11_below_8 : decode cX11_below 8 = .ok (.sipush (-1000), 3) := by decide +kernel
theorem dX11_below_11 : decode cX11_below 11 = .ok (.sipush 1000, 3) := by decide +kernel
theorem dX11_below_14 : decode cX11_below 14 = .ok (.invokestatic 133, 3) := by decide +kernel
theorem dX11_below_17 : decode cX11_below 17 = .ok (.ifCond .eq 14, 3) := by decide +kernel
theorem dX11_below_20 : decode cX11_below 20 = .ok (.iload 4, 2) := by decide +kernel
theorem dX11_below_22 : decode cX11_below 22 = .ok (.iconst 1, 1) := by decide +kernel
theorem dX11_below_23 : decode cX11_below 23 = .ok (.bipush 50, 2) := by decide +kernel
theorem dX11_below_25 : decode cX11_below 25 = .ok (.invokestatic 133, 3) := by decide +kernel
theorem dX11_below_28 : decode cX11_below 28 = .ok (.ifCond .ne 5, 3) := by decide +kernel
theorem dX11_below_31 : decode cX11_below 31 = .ok (.iconst (-1), 1) := by decide +kernel
theorem dX11_below_32 : decode cX11_below 32 = .ok (.ireturn, 1) := by decide +kernel
theorem dX11_below_33 : decode cX11_below 33 = .ok (.aload_n 0, 1) := by decide +kernel
theorem dX11_below_34 : decode cX11_below 34 = .ok (.getfield 35, 3) := by decide +kernel
theorem dX11_below_37 : decode cX11_below 37 = .ok (.getfield 255, 3) := by decide +kernel
theorem dX11_below_40 : decode cX11_below 40 = .ok (.iload_n 1, 1) := by decide +kernel
theorem dX11_below_41 : decode cX11_below 41 = .ok (.aaload, 1) := by decide +kernel
theorem dX11_below_42 : decode cX11_below 42 = .ok (.astore 5, 2) := by decide +kernel
theorem dX11_below_44 : decode cX11_below 44 = .ok (.aload 5, 2) := by decide +kernel
theorem dX11_below_46 : decode cX11_below 46 = .ok (.getfield 263, 3) := by decide +kernel
theorem dX11_below_49 : decode cX11_below 49 = .ok (.ifCond .ne 6, 3) := by decide +kernel
theorem dX11_below_52 : decode cX11_below 52 = .ok (.bipush (-2), 2) := by decide +kernel
theorem dX11_below_54 : decode cX11_below 54 = .ok (.ireturn, 1) := by decide +kernel
theorem dX11_below_55 : decode cX11_below 55 = .ok (.iload_n 2, 1) := by decide +kernel
theorem dX11_below_56 : decode cX11_below 56 = .ok (.iconst 1, 1) := by decide +kernel
theorem dX11_below_57 : decode cX11_below 57 = .ok (.aload 5, 2) := by decide +kernel
theorem dX11_below_59 : decode cX11_below 59 = .ok (.getfield 263, 3) := by decide +kernel
theorem dX11_below_62 : decode cX11_below 62 = .ok (.invokestatic 133, 3) := by decide +kernel
theorem dX11_below_65 : decode cX11_below 65 = .ok (.ifCond .eq 15, 3) := by decide +kernel
theorem dX11_below_68 : decode cX11_below 68 = .ok (.aload 5, 2) := by decide +kernel
theorem dX11_below_70 : decode cX11_below 70 = .ok (.iload_n 2, 1) := by decide +kernel
theorem dX11_below_71 : decode cX11_below 71 = .ok (.iload_n 3, 1) := by decide +kernel
theorem dX11_below_72 : decode cX11_below 72 = .ok (.iload 4, 2) := by decide +kernel
theorem dX11_below_74 : decode cX11_below 74 = .ok (.invokevirtual 300, 3) := by decide +kernel
theorem dX11_below_77 : decode cX11_below 77 = .ok (.goto 4, 3) := by decide +kernel
theorem dX11_below_80 : decode cX11_below 80 = .ok (.iconst (-1), 1) := by decide +kernel
theorem dX11_below_81 : decode cX11_below 81 = .ok (.ireturn, 1) := by decide +kernel
theorem dX11_root_0 : decode cX11_root 0 = .ok (.iload_n 1, 1) := by decide +kernel
theorem dX11_root_1 : decode cX11_root 1 = .ok (.invokestatic 252, 3) := by decide +kernel
theorem dX11_root_4 : decode cX11_root 4 = .ok (.ifCond .eq 14, 3) := by decide +kernel
theorem dX11_root_7 : decode cX11_root 7 = .ok (.iload 4, 2) := by decide +kernel
theorem dX11_root_9 : decode cX11_root 9 = .ok (.iconst 1, 1) := by decide +kernel
theorem dX11_root_10 : decode cX11_root 10 = .ok (.bipush 50, 2) := by decide +kernel
theorem dX11_root_12 : decode cX11_root 12 = .ok (.invokestatic 133, 3) := by decide +kernel
theorem dX11_root_15 : decode cX11_root 15 = .ok (.ifCond .ne 7, 3) := by decide +kernel
theorem dX11_root_18 : decode cX11_root 18 = .ok (.ldc_w 304, 3) := by decide +kernel
theorem dX11_root_21 : decode cX11_root 21 = .ok (.ireturn, 1) := by decide +kernel
theorem dX11_root_22 : decode cX11_root 22 = .ok (.aload_n 0, 1) := by decide +kernel
theorem dX11_root_23 : decode cX11_root 23 = .ok (.getfield 35, 3) := by decide +kernel
theorem dX11_root_26 : decode cX11_root 26 = .ok (.getfield 255, 3) := by decide +kernel
theorem dX11_root_29 : decode cX11_root 29 = .ok (.iload_n 1, 1) := by decide +kernel
theorem dX11_root_30 : decode cX11_root 30 = .ok (.aaload, 1) := by decide +kernel
theorem dX11_root_31 : decode cX11_root 31 = .ok (.astore 5, 2) := by decide +kernel
theorem dX11_root_33 : decode cX11_root 33 = .ok (.aload 5, 2) := by decide +kernel
theorem dX11_root_35 : decode cX11_root 35 = .ok (.getfield 263, 3) := by decide +kernel
theorem dX11_root_38 : decode cX11_root 38 = .ok (.ifCond .ne 7, 3) := by decide +kernel
theorem dX11_root_41 : decode cX11_root 41 = .ok (.ldc_w 305, 3) := by decide +kernel
theorem dX11_root_44 : decode cX11_root 44 = .ok (.ireturn, 1) := by decide +kernel
theorem dX11_root_45 : decode cX11_root 45 = .ok (.iload_n 2, 1) := by decide +kernel
theorem dX11_root_46 : decode cX11_root 46 = .ok (.iconst 1, 1) := by decide +kernel
theorem dX11_root_47 : decode cX11_root 47 = .ok (.aload 5, 2) := by decide +kernel
theorem dX11_root_49 : decode cX11_root 49 = .ok (.getfield 263, 3) := by decide +kernel
theorem dX11_root_52 : decode cX11_root 52 = .ok (.invokestatic 133, 3) := by decide +kernel
theorem dX11_root_55 : decode cX11_root 55 = .ok (.ifCond .eq 14, 3) := by decide +kernel
theorem dX11_root_58 : decode cX11_root 58 = .ok (.iload_n 3, 1) := by decide +kernel
theorem dX11_root_59 : decode cX11_root 59 = .ok (.iconst 0, 1) := by decide +kernel
theorem dX11_root_60 : decode cX11_root 60 = .ok (.iload_n 2, 1) := by decide +kernel
theorem dX11_root_61 : decode cX11_root 61 = .ok (.iconst 1, 1) := by decide +kernel
theorem dX11_root_62 : decode cX11_root 62 = .ok (.isub, 1) := by decide +kernel
theorem dX11_root_63 : decode cX11_root 63 = .ok (.invokestatic 133, 3) := by decide +kernel
theorem dX11_root_66 : decode cX11_root 66 = .ok (.ifCond .ne 7, 3) := by decide +kernel
theorem dX11_root_69 : decode cX11_root 69 = .ok (.ldc_w 304, 3) := by decide +kernel
theorem dX11_root_72 : decode cX11_root 72 = .ok (.ireturn, 1) := by decide +kernel
theorem dX11_root_73 : decode cX11_root 73 = .ok (.aload 5, 2) := by decide +kernel
theorem dX11_root_75 : decode cX11_root 75 = .ok (.iload_n 2, 1) := by decide +kernel
theorem dX11_root_76 : decode cX11_root 76 = .ok (.iload_n 3, 1) := by decide +kernel
theorem dX11_root_77 : decode cX11_root 77 = .ok (.iload 4, 2) := by decide +kernel
theorem dX11_root_79 : decode cX11_root 79 = .ok (.invokevirtual 306, 3) := by decide +kernel
theorem dX11_root_82 : decode cX11_root 82 = .ok (.ireturn, 1) := by decide +kernel
theorem dX11_whole_0 : decode cX11_whole 0 = .ok (.iload_n 1, 1) := by decide +kernel
theorem dX11_whole_1 : decode cX11_whole 1 = .ok (.invokestatic 252, 3) := by decide +kernel
theorem dX11_whole_4 : decode cX11_whole 4 = .ok (.ifCond .ne 5, 3) := by decide +kernel
theorem dX11_whole_7 : decode cX11_whole 7 = .ok (.iconst (-1), 1) := by decide +kernel
theorem dX11_whole_8 : decode cX11_whole 8 = .ok (.ireturn, 1) := by decide +kernel
theorem dX11_whole_9 : decode cX11_whole 9 = .ok (.aload_n 0, 1) := by decide +kernel
theorem dX11_whole_10 : decode cX11_whole 10 = .ok (.getfield 35, 3) := by decide +kernel
theorem dX11_whole_13 : decode cX11_whole 13 = .ok (.getfield 255, 3) := by decide +kernel
theorem dX11_whole_16 : decode cX11_whole 16 = .ok (.iload_n 1, 1) := by decide +kernel
theorem dX11_whole_17 : decode cX11_whole 17 = .ok (.aaload, 1) := by decide +kernel
theorem dX11_whole_18 : decode cX11_whole 18 = .ok (.astore_n 3, 1) := by decide +kernel
theorem dX11_whole_19 : decode cX11_whole 19 = .ok (.aload_n 3, 1) := by decide +kernel
theorem dX11_whole_20 : decode cX11_whole 20 = .ok (.getfield 263, 3) := by decide +kernel
theorem dX11_whole_23 : decode cX11_whole 23 = .ok (.ifCond .ne 6, 3) := by decide +kernel
theorem dX11_whole_26 : decode cX11_whole 26 = .ok (.bipush (-2), 2) := by decide +kernel
theorem dX11_whole_28 : decode cX11_whole 28 = .ok (.ireturn, 1) := by decide +kernel
theorem dX11_whole_29 : decode cX11_whole 29 = .ok (.iload_n 2, 1) := by decide +kernel
theorem dX11_whole_30 : decode cX11_whole 30 = .ok (.iconst 1, 1) := by decide +kernel
theorem dX11_whole_31 : decode cX11_whole 31 = .ok (.aload_n 3, 1) := by decide +kernel
theorem dX11_whole_32 : decode cX11_whole 32 = .ok (.getfield 263, 3) := by decide +kernel
theorem dX11_whole_35 : decode cX11_whole 35 = .ok (.invokestatic 133, 3) := by decide +kernel
theorem dX11_whole_38 : decode cX11_whole 38 = .ok (.ifCond .eq 11, 3) := by decide +kernel
theorem dX11_whole_41 : decode cX11_whole 41 = .ok (.aload_n 3, 1) := by decide +kernel
theorem dX11_whole_42 : decode cX11_whole 42 = .ok (.iload_n 2, 1) := by decide +kernel
theorem dX11_whole_43 : decode cX11_whole 43 = .ok (.invokevirtual 309, 3) := by decide +kernel
theorem dX11_whole_46 : decode cX11_whole 46 = .ok (.goto 4, 3) := by decide +kernel
theorem dX11_whole_49 : decode cX11_whole 49 = .ok (.iconst (-1), 1) := by decide +kernel
theorem dX11_whole_50 : decode cX11_whole 50 = .ok (.ireturn, 1) := by decide +kernel
theorem dX11_inverse_0 : decode cX11_inverse 0 = .ok (.aload_n 0, 1) := by decide +kernel
theorem dX11_inverse_1 : decode cX11_inverse 1 = .ok (.iload_n 1, 1) := by decide +kernel
theorem dX11_inverse_2 : decode cX11_inverse 2 = .ok (.invokevirtual 285, 3) := by decide +kernel
theorem dX11_inverse_5 : decode cX11_inverse 5 = .ok (.ifCond .eq 29, 3) := by decide +kernel
theorem dX11_inverse_8 : decode cX11_inverse 8 = .ok (.aload_n 0, 1) := by decide +kernel
theorem dX11_inverse_9 : decode cX11_inverse 9 = .ok (.iload_n 1, 1) := by decide +kernel
theorem dX11_inverse_10 : decode cX11_inverse 10 = .ok (.iload_n 2, 1) := by decide +kernel
theorem dX11_inverse_11 : decode cX11_inverse 11 = .ok (.invokevirtual 312, 3) := by decide +kernel
theorem dX11_inverse_14 : decode cX11_inverse 14 = .ok (.ifCond .eq 20, 3) := by decide +kernel
theorem dX11_inverse_17 : decode cX11_inverse 17 = .ok (.aload_n 0, 1) := by decide +kernel
theorem dX11_inverse_18 : decode cX11_inverse 18 = .ok (.iload_n 1, 1) := by decide +kernel
theorem dX11_inverse_19 : decode cX11_inverse 19 = .ok (.iload_n 3, 1) := by decide +kernel
theorem dX11_inverse_20 : decode cX11_inverse 20 = .ok (.invokevirtual 312, 3) := by decide +kernel
theorem dX11_inverse_23 : decode cX11_inverse 23 = .ok (.ifCond .eq 11, 3) := by decide +kernel
theorem dX11_inverse_26 : decode cX11_inverse 26 = .ok (.iload 4, 2) := by decide +kernel
theorem dX11_inverse_28 : decode cX11_inverse 28 = .ok (.invokestatic 170, 3) := by decide +kernel
theorem dX11_inverse_31 : decode cX11_inverse 31 = .ok (.ifCond .ne 7, 3) := by decide +kernel
theorem dX11_inverse_34 : decode cX11_inverse 34 = .ok (.ldc2_w 151, 3) := by decide +kernel
theorem dX11_inverse_37 : decode cX11_inverse 37 = .ok (.lreturn, 1) := by decide +kernel
theorem dX11_inverse_38 : decode cX11_inverse 38 = .ok (.aload_n 0, 1) := by decide +kernel
theorem dX11_inverse_39 : decode cX11_inverse 39 = .ok (.getfield 35, 3) := by decide +kernel
theorem dX11_inverse_42 : decode cX11_inverse 42 = .ok (.getfield 255, 3) := by decide +kernel
theorem dX11_inverse_45 : decode cX11_inverse 45 = .ok (.iload_n 1, 1) := by decide +kernel
theorem dX11_inverse_46 : decode cX11_inverse 46 = .ok (.aaload, 1) := by decide +kernel
theorem dX11_inverse_47 : decode cX11_inverse 47 = .ok (.iload_n 2, 1) := by decide +kernel
theorem dX11_inverse_48 : decode cX11_inverse 48 = .ok (.iload_n 3, 1) := by decide +kernel
theorem dX11_inverse_49 : decode cX11_inverse 49 = .ok (.aload_n 0, 1) := by decide +kernel
theorem dX11_inverse_50 : decode cX11_inverse 50 = .ok (.getfield 94, 3) := by decide +kernel
theorem dX11_inverse_53 : decode cX11_inverse 53 = .ok (.invokevirtual 316, 3) := by decide +kernel
theorem dX11_inverse_56 : decode cX11_inverse 56 = .ok (.ifCond .eq 15, 3) := by decide +kernel
theorem dX11_inverse_59 : decode cX11_inverse 59 = .ok (.aload_n 0, 1) := by decide +kernel
theorem dX11_inverse_60 : decode cX11_inverse 60 = .ok (.getfield 94, 3) := by decide +kernel
theorem dX11_inverse_63 : decode cX11_inverse 63 = .ok (.iload 4, 2) := by decide +kernel
theorem dX11_inverse_65 : decode cX11_inverse 65 = .ok (.invokevirtual 177, 3) := by decide +kernel
theorem dX11_inverse_68 : decode cX11_inverse 68 = .ok (.goto 6, 3) := by decide +kernel
theorem dX11_inverse_71 : decode cX11_inverse 71 = .ok (.ldc2_w 201, 3) := by decide +kernel
theorem dX11_inverse_74 : decode cX11_inverse 74 = .ok (.lreturn, 1) := by decide +kernel
theorem dX11_alike_0 : decode cX11_alike 0 = .ok (.iload_n 1, 1) := by decide +kernel
theorem dX11_alike_1 : decode cX11_alike 1 = .ok (.invokestatic 252, 3) := by decide +kernel
theorem dX11_alike_4 : decode cX11_alike 4 = .ok (.ifCond .eq 19, 3) := by decide +kernel
theorem dX11_alike_7 : decode cX11_alike 7 = .ok (.iload_n 2, 1) := by decide +kernel
theorem dX11_alike_8 : decode cX11_alike 8 = .ok (.invokestatic 252, 3) := by decide +kernel
theorem dX11_alike_11 : decode cX11_alike 11 = .ok (.ifCond .eq 12, 3) := by decide +kernel
theorem dX11_alike_14 : decode cX11_alike 14 = .ok (.iload_n 3, 1) := by decide +kernel
theorem dX11_alike_15 : decode cX11_alike 15 = .ok (.iconst 0, 1) := by decide +kernel
theorem dX11_alike_16 : decode cX11_alike 16 = .ok (.iconst 2, 1) := by decide +kernel
theorem dX11_alike_17 : decode cX11_alike 17 = .ok (.invokestatic 133, 3) := by decide +kernel
theorem dX11_alike_20 : decode cX11_alike 20 = .ok (.ifCond .ne 5, 3) := by decide +kernel
theorem dX11_alike_23 : decode cX11_alike 23 = .ok (.iconst (-1), 1) := by decide +kernel
theorem dX11_alike_24 : decode cX11_alike 24 = .ok (.ireturn, 1) := by decide +kernel
theorem dX11_alike_25 : decode cX11_alike 25 = .ok (.aload_n 0, 1) := by decide +kernel
theorem dX11_alike_26 : decode cX11_alike 26 = .ok (.getfield 35, 3) := by decide +kernel
theorem dX11_alike_29 : decode cX11_alike 29 = .ok (.getfield 255, 3) := by decide +kernel
theorem dX11_alike_32 : decode cX11_alike 32 = .ok (.iload_n 1, 1) := by decide +kernel
theorem dX11_alike_33 : decode cX11_alike 33 = .ok (.aaload, 1) := by decide +kernel
theorem dX11_alike_34 : decode cX11_alike 34 = .ok (.astore 4, 2) := by decide +kernel
theorem dX11_alike_36 : decode cX11_alike 36 = .ok (.aload_n 0, 1) := by decide +kernel
theorem dX11_alike_37 : decode cX11_alike 37 = .ok (.getfield 35, 3) := by decide +kernel
theorem dX11_alike_40 : decode cX11_alike 40 = .ok (.getfield 255, 3) := by decide +kernel
theorem dX11_alike_43 : decode cX11_alike 43 = .ok (.iload_n 2, 1) := by decide +kernel
theorem dX11_alike_44 : decode cX11_alike 44 = .ok (.aaload, 1) := by decide +kernel
theorem dX11_alike_45 : decode cX11_alike 45 = .ok (.astore 5, 2) := by decide +kernel
theorem dX11_alike_47 : decode cX11_alike 47 = .ok (.aload 4, 2) := by decide +kernel
theorem dX11_alike_49 : decode cX11_alike 49 = .ok (.getfield 263, 3) := by decide +kernel
theorem dX11_alike_52 : decode cX11_alike 52 = .ok (.ifCond .eq 11, 3) := by decide +kernel
theorem dX11_alike_55 : decode cX11_alike 55 = .ok (.aload 5, 2) := by decide +kernel
theorem dX11_alike_57 : decode cX11_alike 57 = .ok (.getfield 263, 3) := by decide +kernel
theorem dX11_alike_60 : decode cX11_alike 60 = .ok (.ifCond .ne 6, 3) := by decide +kernel
theorem dX11_alike_63 : decode cX11_alike 63 = .ok (.bipush (-2), 2) := by decide +kernel
theorem dX11_alike_65 : decode cX11_alike 65 = .ok (.ireturn, 1) := by decide +kernel
theorem dX11_alike_66 : decode cX11_alike 66 = .ok (.iload_n 3, 1) := by decide +kernel
theorem dX11_alike_67 : decode cX11_alike 67 = .ok (.iconst 2, 1) := by decide +kernel
theorem dX11_alike_68 : decode cX11_alike 68 = .ok (.if_icmp .ne 13, 3) := by decide +kernel
theorem dX11_alike_71 : decode cX11_alike 71 = .ok (.aload 4, 2) := by decide +kernel
theorem dX11_alike_73 : decode cX11_alike 73 = .ok (.aload 5, 2) := by decide +kernel
theorem dX11_alike_75 : decode cX11_alike 75 = .ok (.bipush 50, 2) := by decide +kernel
theorem dX11_alike_77 : decode cX11_alike 77 = .ok (.invokevirtual 319, 3) := by decide +kernel
theorem dX11_alike_80 : decode cX11_alike 80 = .ok (.ireturn, 1) := by decide +kernel
theorem dX11_alike_81 : decode cX11_alike 81 = .ok (.iload_n 3, 1) := by decide +kernel
theorem dX11_alike_82 : decode cX11_alike 82 = .ok (.ifCond .ne 13, 3) := by decide +kernel
theorem dX11_alike_85 : decode cX11_alike 85 = .ok (.aload 4, 2) := by decide +kernel
theorem dX11_alike_87 : decode cX11_alike 87 = .ok (.aload 5, 2) := by decide +kernel
theorem dX11_alike_89 : decode cX11_alike 89 = .ok (.invokevirtual 323, 3) := by decide +kernel
theorem dX11_alike_92 : decode cX11_alike 92 = .ok (.goto 10, 3) := by decide +kernel
theorem dX11_alike_95 : decode cX11_alike 95 = .ok (.aload 4, 2) := by decide +kernel
theorem dX11_alike_97 : decode cX11_alike 97 = .ok (.aload 5, 2) := by decide +kernel
theorem dX11_alike_99 : decode cX11_alike 99 = .ok (.invokevirtual 327, 3) := by decide +kernel
theorem dX11_alike_102 : decode cX11_alike 102 = .ok (.istore 6, 2) := by decide +kernel
theorem dX11_alike_104 : decode cX11_alike 104 = .ok (.iload 6, 2) := by decide +kernel
theorem dX11_alike_106 : decode cX11_alike 106 = .ok (.ifCond .eq 7, 3) := by decide +kernel
theorem dX11_alike_109 : decode cX11_alike 109 = .ok (.iconst 1, 1) := by decide +kernel
theorem dX11_alike_110 : decode cX11_alike 110 = .ok (.goto 4, 3) := by decide +kernel
theorem dX11_alike_113 : decode cX11_alike 113 = .ok (.iconst 0, 1) := by decide +kernel
theorem dX11_alike_114 : decode cX11_alike 114 = .ok (.ireturn, 1) := by decide +kernel
theorem dX11_between_0 : decode cX11_between 0 = .ok (.iload_n 1, 1) := by decide +kernel
theorem dX11_between_1 : decode cX11_between 1 = .ok (.invokestatic 252, 3) := by decide +kernel
theorem dX11_between_4 : decode cX11_between 4 = .ok (.ifCond .eq 20, 3) := by decide +kernel
theorem dX11_between_7 : decode cX11_between 7 = .ok (.iload_n 2, 1) := by decide +kernel
theorem dX11_between_8 : decode cX11_between 8 = .ok (.invokestatic 252, 3) := by decide +kernel
theorem dX11_between_11 : decode cX11_between 11 = .ok (.ifCond .eq 13, 3) := by decide +kernel
theorem dX11_between_14 : decode cX11_between 14 = .ok (.iload_n 3, 1) := by decide +kernel
theorem dX11_between_15 : decode cX11_between 15 = .ok (.iconst 1, 1) := by decide +kernel
theorem dX11_between_16 : decode cX11_between 16 = .ok (.bipush 50, 2) := by decide +kernel
theorem dX11_between_18 : decode cX11_between 18 = .ok (.invokestatic 133, 3) := by decide +kernel
theorem dX11_between_21 : decode cX11_between 21 = .ok (.ifCond .ne 5, 3) := by decide +kernel
theorem dX11_between_24 : decode cX11_between 24 = .ok (.iconst (-1), 1) := by decide +kernel
theorem dX11_between_25 : decode cX11_between 25 = .ok (.ireturn, 1) := by decide +kernel
theorem dX11_between_26 : decode cX11_between 26 = .ok (.aload_n 0, 1) := by decide +kernel
theorem dX11_between_27 : decode cX11_between 27 = .ok (.getfield 35, 3) := by decide +kernel
theorem dX11_between_30 : decode cX11_between 30 = .ok (.getfield 255, 3) := by decide +kernel
theorem dX11_between_33 : decode cX11_between 33 = .ok (.iload_n 1, 1) := by decide +kernel
theorem dX11_between_34 : decode cX11_between 34 = .ok (.aaload, 1) := by decide +kernel
theorem dX11_between_35 : decode cX11_between 35 = .ok (.astore 4, 2) := by decide +kernel
theorem dX11_between_37 : decode cX11_between 37 = .ok (.aload_n 0, 1) := by decide +kernel
theorem dX11_between_38 : decode cX11_between 38 = .ok (.getfield 35, 3) := by decide +kernel
theorem dX11_between_41 : decode cX11_between 41 = .ok (.getfield 255, 3) := by decide +kernel
theorem dX11_between_44 : decode cX11_between 44 = .ok (.iload_n 2, 1) := by decide +kernel
theorem dX11_between_45 : decode cX11_between 45 = .ok (.aaload, 1) := by decide +kernel
theorem dX11_between_46 : decode cX11_between 46 = .ok (.astore 5, 2) := by decide +kernel
theorem dX11_between_48 : decode cX11_between 48 = .ok (.aload 4, 2) := by decide +kernel
theorem dX11_between_50 : decode cX11_between 50 = .ok (.getfield 263, 3) := by decide +kernel
theorem dX11_between_53 : decode cX11_between 53 = .ok (.ifCond .eq 11, 3) := by decide +kernel
theorem dX11_between_56 : decode cX11_between 56 = .ok (.aload 5, 2) := by decide +kernel
theorem dX11_between_58 : decode cX11_between 58 = .ok (.getfield 263, 3) := by decide +kernel
theorem dX11_between_61 : decode cX11_between 61 = .ok (.ifCond .ne 6, 3) := by decide +kernel
theorem dX11_between_64 : decode cX11_between 64 = .ok (.bipush (-2), 2) := by decide +kernel
theorem dX11_between_66 : decode cX11_between 66 = .ok (.ireturn, 1) := by decide +kernel
theorem dX11_between_67 : decode cX11_between 67 = .ok (.aload 5, 2) := by decide +kernel
theorem dX11_between_69 : decode cX11_between 69 = .ok (.getfield 263, 3) := by decide +kernel
theorem dX11_between_72 : decode cX11_between 72 = .ok (.aload 4, 2) := by decide +kernel
theorem dX11_between_74 : decode cX11_between 74 = .ok (.getfield 263, 3) := by decide +kernel
theorem dX11_between_77 : decode cX11_between 77 = .ok (.iconst 1, 1) := by decide +kernel
theorem dX11_between_78 : decode cX11_between 78 = .ok (.isub, 1) := by decide +kernel
theorem dX11_between_79 : decode cX11_between 79 = .ok (.if_icmp .eq 6, 3) := by decide +kernel
theorem dX11_between_82 : decode cX11_between 82 = .ok (.bipush (-3), 2) := by decide +kernel
theorem dX11_between_84 : decode cX11_between 84 = .ok (.ireturn, 1) := by decide +kernel
theorem dX11_between_85 : decode cX11_between 85 = .ok (.aload 4, 2) := by decide +kernel
theorem dX11_between_87 : decode cX11_between 87 = .ok (.aload 5, 2) := by decide +kernel
theorem dX11_between_89 : decode cX11_between 89 = .ok (.iload_n 3, 1) := by decide +kernel
theorem dX11_between_90 : decode cX11_between 90 = .ok (.invokevirtual 330, 3) := by decide +kernel
theorem dX11_between_93 : decode cX11_between 93 = .ok (.ifCond .eq 7, 3) := by decide +kernel
theorem dX11_between_96 : decode cX11_between 96 = .ok (.iconst 1, 1) := by decide +kernel
theorem dX11_between_97 : decode cX11_between 97 = .ok (.goto 4, 3) := by decide +kernel
theorem dX11_between_100 : decode cX11_between 100 = .ok (.iconst 0, 1) := by decide +kernel
theorem dX11_between_101 : decode cX11_between 101 = .ok (.ireturn, 1) := by decide +kernel
theorem dX11_change_0 : decode cX11_change 0 = .ok (.iload_n 1, 1) := by decide +kernel
theorem dX11_change_1 : decode cX11_change 1 = .ok (.invokestatic 252, 3) := by decide +kernel
theorem dX11_change_4 : decode cX11_change 4 = .ok (.ifCond .eq 12, 3) := by decide +kernel
theorem dX11_change_7 : decode cX11_change 7 = .ok (.iload_n 2, 1) := by decide +kernel
theorem dX11_change_8 : decode cX11_change 8 = .ok (.iconst 0, 1) := by decide +kernel
theorem dX11_change_9 : decode cX11_change 9 = .ok (.iconst 4, 1) := by decide +kernel
theorem dX11_change_10 : decode cX11_change 10 = .ok (.invokestatic 133, 3) := by decide +kernel
theorem dX11_change_13 : decode cX11_change 13 = .ok (.ifCond .ne 5, 3) := by decide +kernel
theorem dX11_change_16 : decode cX11_change 16 = .ok (.iconst (-1), 1) := by decide +kernel
theorem dX11_change_17 : decode cX11_change 17 = .ok (.ireturn, 1) := by decide +kernel
theorem dX11_change_18 : decode cX11_change 18 = .ok (.aload_n 0, 1) := by decide +kernel
theorem dX11_change_19 : decode cX11_change 19 = .ok (.getfield 35, 3) := by decide +kernel
theorem dX11_change_22 : decode cX11_change 22 = .ok (.getfield 255, 3) := by decide +kernel
theorem dX11_change_25 : decode cX11_change 25 = .ok (.iload_n 1, 1) := by decide +kernel
theorem dX11_change_26 : decode cX11_change 26 = .ok (.aaload, 1) := by decide +kernel
theorem dX11_change_27 : decode cX11_change 27 = .ok (.astore_n 3, 1) := by decide +kernel
theorem dX11_change_28 : decode cX11_change 28 = .ok (.aload_n 3, 1) := by decide +kernel
theorem dX11_change_29 : decode cX11_change 29 = .ok (.getfield 263, 3) := by decide +kernel
theorem dX11_change_32 : decode cX11_change 32 = .ok (.ifCond .ne 6, 3) := by decide +kernel
theorem dX11_change_35 : decode cX11_change 35 = .ok (.bipush (-2), 2) := by decide +kernel
theorem dX11_change_37 : decode cX11_change 37 = .ok (.ireturn, 1) := by decide +kernel
theorem dX11_change_38 : decode cX11_change 38 = .ok (.aload_n 3, 1) := by decide +kernel
theorem dX11_change_39 : decode cX11_change 39 = .ok (.iload_n 2, 1) := by decide +kernel
theorem dX11_change_40 : decode cX11_change 40 = .ok (.invokevirtual 334, 3) := by decide +kernel
theorem dX11_change_43 : decode cX11_change 43 = .ok (.ifCond .eq 10, 3) := by decide +kernel
theorem dX11_change_46 : decode cX11_change 46 = .ok (.aload_n 3, 1) := by decide +kernel
theorem dX11_change_47 : decode cX11_change 47 = .ok (.getfield 263, 3) := by decide +kernel
theorem dX11_change_50 : decode cX11_change 50 = .ok (.goto 5, 3) := by decide +kernel
theorem dX11_change_53 : decode cX11_change 53 = .ok (.bipush (-3), 2) := by decide +kernel
theorem dX11_change_55 : decode cX11_change 55 = .ok (.ireturn, 1) := by decide +kernel
theorem dX11_would_0 : decode cX11_would 0 = .ok (.aload_n 0, 1) := by decide +kernel
theorem dX11_would_1 : decode cX11_would 1 = .ok (.iload_n 1, 1) := by decide +kernel
theorem dX11_would_2 : decode cX11_would 2 = .ok (.invokevirtual 285, 3) := by decide +kernel
theorem dX11_would_5 : decode cX11_would 5 = .ok (.ifCond .eq 50, 3) := by decide +kernel
theorem dX11_would_8 : decode cX11_would 8 = .ok (.aload_n 0, 1) := by decide +kernel
theorem dX11_would_9 : decode cX11_would 9 = .ok (.getfield 35, 3) := by decide +kernel
theorem dX11_would_12 : decode cX11_would 12 = .ok (.getfield 255, 3) := by decide +kernel
theorem dX11_would_15 : decode cX11_would 15 = .ok (.iload_n 1, 1) := by decide +kernel
theorem dX11_would_16 : decode cX11_would 16 = .ok (.aaload, 1) := by decide +kernel
theorem dX11_would_17 : decode cX11_would 17 = .ok (.iload_n 2, 1) := by decide +kernel
theorem dX11_would_18 : decode cX11_would 18 = .ok (.iload_n 3, 1) := by decide +kernel
theorem dX11_would_19 : decode cX11_would 19 = .ok (.invokevirtual 270, 3) := by decide +kernel
theorem dX11_would_22 : decode cX11_would 22 = .ok (.ifCond .eq 33, 3) := by decide +kernel
theorem dX11_would_25 : decode cX11_would 25 = .ok (.iload_n 2, 1) := by decide +kernel
theorem dX11_would_26 : decode cX11_would 26 = .ok (.iload 4, 2) := by decide +kernel
theorem dX11_would_28 : decode cX11_would 28 = .ok (.invokestatic 274, 3) := by decide +kernel
theorem dX11_would_31 : decode cX11_would 31 = .ok (.ifCond .eq 24, 3) := by decide +kernel
theorem dX11_would_34 : decode cX11_would 34 = .ok (.iload 5, 2) := by decide +kernel
theorem dX11_would_36 : decode cX11_would 36 = .ok (.iconst 0, 1) := by decide +kernel
theorem dX11_would_37 : decode cX11_would 37 = .ok (.aload_n 0, 1) := by decide +kernel
theorem dX11_would_38 : decode cX11_would 38 = .ok (.getfield 35, 3) := by decide +kernel
theorem dX11_would_41 : decode cX11_would 41 = .ok (.getfield 255, 3) := by decide +kernel
theorem dX11_would_44 : decode cX11_would 44 = .ok (.iload_n 1, 1) := by decide +kernel
theorem dX11_would_45 : decode cX11_would 45 = .ok (.aaload, 1) := by decide +kernel
theorem dX11_would_46 : decode cX11_would 46 = .ok (.getfield 263, 3) := by decide +kernel
theorem dX11_would_49 : decode cX11_would 49 = .ok (.invokestatic 133, 3) := by decide +kernel
theorem dX11_would_52 : decode cX11_would 52 = .ok (.ifCond .ne 7, 3) := by decide +kernel
theorem dX11_would_55 : decode cX11_would 55 = .ok (.ldc2_w 151, 3) := by decide +kernel
theorem dX11_would_58 : decode cX11_would 58 = .ok (.lreturn, 1) := by decide +kernel
theorem dX11_would_59 : decode cX11_would 59 = .ok (.aload_n 0, 1) := by decide +kernel
theorem dX11_would_60 : decode cX11_would 60 = .ok (.getfield 80, 3) := by decide +kernel
theorem dX11_would_63 : decode cX11_would 63 = .ok (.aload_n 0, 1) := by decide +kernel
theorem dX11_would_64 : decode cX11_would 64 = .ok (.getfield 35, 3) := by decide +kernel
theorem dX11_would_67 : decode cX11_would 67 = .ok (.getfield 255, 3) := by decide +kernel
theorem dX11_would_70 : decode cX11_would 70 = .ok (.iload_n 1, 1) := by decide +kernel
theorem dX11_would_71 : decode cX11_would 71 = .ok (.aaload, 1) := by decide +kernel
theorem dX11_would_72 : decode cX11_would 72 = .ok (.invokevirtual 337, 3) := by decide +kernel
theorem dX11_would_75 : decode cX11_would 75 = .ok (.aload_n 0, 1) := by decide +kernel
theorem dX11_would_76 : decode cX11_would 76 = .ok (.getfield 80, 3) := by decide +kernel
theorem dX11_would_79 : decode cX11_would 79 = .ok (.iload_n 2, 1) := by decide +kernel
theorem dX11_would_80 : decode cX11_would 80 = .ok (.iload_n 3, 1) := by decide +kernel
theorem dX11_would_81 : decode cX11_would 81 = .ok (.iload 4, 2) := by decide +kernel
theorem dX11_would_83 : decode cX11_would 83 = .ok (.invokevirtual 281, 3) := by decide +kernel
theorem dX11_would_86 : decode cX11_would 86 = .ok (.aload_n 0, 1) := by decide +kernel
theorem dX11_would_87 : decode cX11_would 87 = .ok (.getfield 73, 3) := by decide +kernel
theorem dX11_would_90 : decode cX11_would 90 = .ok (.aload_n 0, 1) := by decide +kernel
theorem dX11_would_91 : decode cX11_would 91 = .ok (.getfield 80, 3) := by decide +kernel
theorem dX11_would_94 : decode cX11_would 94 = .ok (.invokevirtual 288, 3) := by decide +kernel
theorem dX11_would_97 : decode cX11_would 97 = .ok (.aload_n 0, 1) := by decide +kernel
theorem dX11_would_98 : decode cX11_would 98 = .ok (.getfield 73, 3) := by decide +kernel
theorem dX11_would_101 : decode cX11_would 101 = .ok (.getfield 292, 3) := by decide +kernel
theorem dX11_would_104 : decode cX11_would 104 = .ok (.aload_n 0, 1) := by decide +kernel
theorem dX11_would_105 : decode cX11_would 105 = .ok (.getfield 80, 3) := by decide +kernel
theorem dX11_would_108 : decode cX11_would 108 = .ok (.getfield 263, 3) := by decide +kernel
theorem dX11_would_111 : decode cX11_would 111 = .ok (.aaload, 1) := by decide +kernel
theorem dX11_would_112 : decode cX11_would 112 = .ok (.iload 5, 2) := by decide +kernel
theorem dX11_would_114 : decode cX11_would 114 = .ok (.laload, 1) := by decide +kernel
theorem dX11_would_115 : decode cX11_would 115 = .ok (.lreturn, 1) := by decide +kernel
theorem dX11_walks_0 : decode cX11_walks 0 = .ok (.aload_n 0, 1) := by decide +kernel
theorem dX11_walks_1 : decode cX11_walks 1 = .ok (.iload_n 1, 1) := by decide +kernel
theorem dX11_walks_2 : decode cX11_walks 2 = .ok (.invokevirtual 285, 3) := by decide +kernel
theorem dX11_walks_5 : decode cX11_walks 5 = .ok (.ifCond .eq 32, 3) := by decide +kernel
theorem dX11_walks_8 : decode cX11_walks 8 = .ok (.iload_n 2, 1) := by decide +kernel
theorem dX11_walks_9 : decode cX11_walks 9 = .ok (.iconst 0, 1) := by decide +kernel
theorem dX11_walks_10 : decode cX11_walks 10 = .ok (.bipush 8, 2) := by decide +kernel
theorem dX11_walks_12 : decode cX11_walks 12 = .ok (.invokestatic 133, 3) := by decide +kernel
theorem dX11_walks_15 : decode cX11_walks 15 = .ok (.ifCond .eq 22, 3) := by decide +kernel
theorem dX11_walks_18 : decode cX11_walks 18 = .ok (.aload_n 0, 1) := by decide +kernel
theorem dX11_walks_19 : decode cX11_walks 19 = .ok (.iload_n 1, 1) := by decide +kernel
theorem dX11_walks_20 : decode cX11_walks 20 = .ok (.iload_n 3, 1) := by decide +kernel
theorem dX11_walks_21 : decode cX11_walks 21 = .ok (.invokevirtual 312, 3) := by decide +kernel
theorem dX11_walks_24 : decode cX11_walks 24 = .ok (.ifCond .eq 13, 3) := by decide +kernel
theorem dX11_walks_27 : decode cX11_walks 27 = .ok (.aload_n 0, 1) := by decide +kernel
theorem dX11_walks_28 : decode cX11_walks 28 = .ok (.iload_n 1, 1) := by decide +kernel
theorem dX11_walks_29 : decode cX11_walks 29 = .ok (.iload 4, 2) := by decide +kernel
theorem dX11_walks_31 : decode cX11_walks 31 = .ok (.invokevirtual 312, 3) := by decide +kernel
theorem dX11_walks_34 : decode cX11_walks 34 = .ok (.ifCond .ne 7, 3) := by decide +kernel
theorem dX11_walks_37 : decode cX11_walks 37 = .ok (.ldc2_w 151, 3) := by decide +kernel
theorem dX11_walks_40 : decode cX11_walks 40 = .ok (.lreturn, 1) := by decide +kernel
theorem dX11_walks_41 : decode cX11_walks 41 = .ok (.aload_n 0, 1) := by decide +kernel
theorem dX11_walks_42 : decode cX11_walks 42 = .ok (.getfield 73, 3) := by decide +kernel
theorem dX11_walks_45 : decode cX11_walks 45 = .ok (.aload_n 0, 1) := by decide +kernel
theorem dX11_walks_46 : decode cX11_walks 46 = .ok (.getfield 35, 3) := by decide +kernel
theorem dX11_walks_49 : decode cX11_walks 49 = .ok (.getfield 255, 3) := by decide +kernel
theorem dX11_walks_52 : decode cX11_walks 52 = .ok (.iload_n 1, 1) := by decide +kernel
theorem dX11_walks_53 : decode cX11_walks 53 = .ok (.aaload, 1) := by decide +kernel
theorem dX11_walks_54 : decode cX11_walks 54 = .ok (.iload_n 2, 1) := by decide +kernel
theorem dX11_walks_55 : decode cX11_walks 55 = .ok (.iload_n 3, 1) := by decide +kernel
theorem dX11_walks_56 : decode cX11_walks 56 = .ok (.iload 4, 2) := by decide +kernel
theorem dX11_walks_58 : decode cX11_walks 58 = .ok (.invokevirtual 339, 3) := by decide +kernel
theorem dX11_walks_61 : decode cX11_walks 61 = .ok (.lreturn, 1) := by decide +kernel
theorem dX11_powers_0 : decode cX11_powers 0 = .ok (.aload_n 0, 1) := by decide +kernel
theorem dX11_powers_1 : decode cX11_powers 1 = .ok (.iload_n 1, 1) := by decide +kernel
theorem dX11_powers_2 : decode cX11_powers 2 = .ok (.invokevirtual 285, 3) := by decide +kernel
theorem dX11_powers_5 : decode cX11_powers 5 = .ok (.ifCond .eq 13, 3) := by decide +kernel
theorem dX11_powers_8 : decode cX11_powers 8 = .ok (.iload_n 2, 1) := by decide +kernel
theorem dX11_powers_9 : decode cX11_powers 9 = .ok (.iconst 0, 1) := by decide +kernel
theorem dX11_powers_10 : decode cX11_powers 10 = .ok (.bipush 8, 2) := by decide +kernel
theorem dX11_powers_12 : decode cX11_powers 12 = .ok (.invokestatic 133, 3) := by decide +kernel
theorem dX11_powers_15 : decode cX11_powers 15 = .ok (.ifCond .ne 7, 3) := by decide +kernel
theorem dX11_powers_18 : decode cX11_powers 18 = .ok (.ldc2_w 151, 3) := by decide +kernel
theorem dX11_powers_21 : decode cX11_powers 21 = .ok (.lreturn, 1) := by decide +kernel
theorem dX11_powers_22 : decode cX11_powers 22 = .ok (.lconst 0, 1) := by decide +kernel
theorem dX11_powers_23 : decode cX11_powers 23 = .ok (.lstore_n 3, 1) := by decide +kernel
theorem dX11_powers_24 : decode cX11_powers 24 = .ok (.iconst 0, 1) := by decide +kernel
theorem dX11_powers_25 : decode cX11_powers 25 = .ok (.istore 5, 2) := by decide +kernel
theorem dX11_powers_27 : decode cX11_powers 27 = .ok (.iload 5, 2) := by decide +kernel
theorem dX11_powers_29 : decode cX11_powers 29 = .ok (.aload_n 0, 1) := by decide +kernel
theorem dX11_powers_30 : decode cX11_powers 30 = .ok (.getfield 35, 3) := by decide +kernel
theorem dX11_powers_33 : decode cX11_powers 33 = .ok (.getfield 255, 3) := by decide +kernel
theorem dX11_powers_36 : decode cX11_powers 36 = .ok (.iload_n 1, 1) := by decide +kernel
theorem dX11_powers_37 : decode cX11_powers 37 = .ok (.aaload, 1) := by decide +kernel
theorem dX11_powers_38 : decode cX11_powers 38 = .ok (.getfield 263, 3) := by decide +kernel
theorem dX11_powers_41 : decode cX11_powers 41 = .ok (.if_icmp .ge 33, 3) := by decide +kernel
theorem dX11_powers_44 : decode cX11_powers 44 = .ok (.lload_n 3, 1) := by decide +kernel
theorem dX11_powers_45 : decode cX11_powers 45 = .ok (.aload_n 0, 1) := by decide +kernel
theorem dX11_powers_46 : decode cX11_powers 46 = .ok (.getfield 73, 3) := by decide +kernel
theorem dX11_powers_49 : decode cX11_powers 49 = .ok (.aload_n 0, 1) := by decide +kernel
theorem dX11_powers_50 : decode cX11_powers 50 = .ok (.getfield 35, 3) := by decide +kernel
theorem dX11_powers_53 : decode cX11_powers 53 = .ok (.getfield 255, 3) := by decide +kernel
theorem dX11_powers_56 : decode cX11_powers 56 = .ok (.iload_n 1, 1) := by decide +kernel
theorem dX11_powers_57 : decode cX11_powers 57 = .ok (.aaload, 1) := by decide +kernel
theorem dX11_powers_58 : decode cX11_powers 58 = .ok (.iload_n 2, 1) := by decide +kernel
theorem dX11_powers_59 : decode cX11_powers 59 = .ok (.iload 5, 2) := by decide +kernel
theorem dX11_powers_61 : decode cX11_powers 61 = .ok (.iload 5, 2) := by decide +kernel
theorem dX11_powers_63 : decode cX11_powers 63 = .ok (.invokevirtual 339, 3) := by decide +kernel
theorem dX11_powers_66 : decode cX11_powers 66 = .ok (.ladd, 1) := by decide +kernel
theorem dX11_powers_67 : decode cX11_powers 67 = .ok (.lstore_n 3, 1) := by decide +kernel
theorem dX11_powers_68 : decode cX11_powers 68 = .ok (.iinc 5 1, 3) := by decide +kernel
theorem dX11_powers_71 : decode cX11_powers 71 = .ok (.goto (-44), 3) := by decide +kernel
theorem dX11_powers_74 : decode cX11_powers 74 = .ok (.lload_n 3, 1) := by decide +kernel
theorem dX11_powers_75 : decode cX11_powers 75 = .ok (.lreturn, 1) := by decide +kernel
theorem dX11_strike_0 : decode cX11_strike 0 = .ok (.aload_n 0, 1) := by decide +kernel
theorem dX11_strike_1 : decode cX11_strike 1 = .ok (.iload_n 1, 1) := by decide +kernel
theorem dX11_strike_2 : decode cX11_strike 2 = .ok (.invokevirtual 285, 3) := by decide +kernel
theorem dX11_strike_5 : decode cX11_strike 5 = .ok (.ifCond .eq 32, 3) := by decide +kernel
theorem dX11_strike_8 : decode cX11_strike 8 = .ok (.aload_n 0, 1) := by decide +kernel
theorem dX11_strike_9 : decode cX11_strike 9 = .ok (.iload_n 1, 1) := by decide +kernel
theorem dX11_strike_10 : decode cX11_strike 10 = .ok (.iload_n 2, 1) := by decide +kernel
theorem dX11_strike_11 : decode cX11_strike 11 = .ok (.invokevirtual 312, 3) := by decide +kernel
theorem dX11_strike_14 : decode cX11_strike 14 = .ok (.ifCond .eq 23, 3) := by decide +kernel
theorem dX11_strike_17 : decode cX11_strike 17 = .ok (.iload_n 3, 1) := by decide +kernel
theorem dX11_strike_18 : decode cX11_strike 18 = .ok (.iconst 0, 1) := by decide +kernel
theorem dX11_strike_19 : decode cX11_strike 19 = .ok (.bipush 8, 2) := by decide +kernel
theorem dX11_strike_21 : decode cX11_strike 21 = .ok (.invokestatic 133, 3) := by decide +kernel
theorem dX11_strike_24 : decode cX11_strike 24 = .ok (.ifCond .eq 13, 3) := by decide +kernel
theorem dX11_strike_27 : decode cX11_strike 27 = .ok (.aload_n 0, 1) := by decide +kernel
theorem dX11_strike_28 : decode cX11_strike 28 = .ok (.iload_n 1, 1) := by decide +kernel
theorem dX11_strike_29 : decode cX11_strike 29 = .ok (.iload 4, 2) := by decide +kernel
theorem dX11_strike_31 : decode cX11_strike 31 = .ok (.invokevirtual 312, 3) := by decide +kernel
theorem dX11_strike_34 : decode cX11_strike 34 = .ok (.ifCond .ne 7, 3) := by decide +kernel
theorem dX11_strike_37 : decode cX11_strike 37 = .ok (.ldc2_w 151, 3) := by decide +kernel
theorem dX11_strike_40 : decode cX11_strike 40 = .ok (.lreturn, 1) := by decide +kernel
theorem dX11_strike_41 : decode cX11_strike 41 = .ok (.aload_n 0, 1) := by decide +kernel
theorem dX11_strike_42 : decode cX11_strike 42 = .ok (.getfield 73, 3) := by decide +kernel
theorem dX11_strike_45 : decode cX11_strike 45 = .ok (.aload_n 0, 1) := by decide +kernel
theorem dX11_strike_46 : decode cX11_strike 46 = .ok (.getfield 35, 3) := by decide +kernel
theorem dX11_strike_49 : decode cX11_strike 49 = .ok (.getfield 255, 3) := by decide +kernel
theorem dX11_strike_52 : decode cX11_strike 52 = .ok (.iload_n 1, 1) := by decide +kernel
theorem dX11_strike_53 : decode cX11_strike 53 = .ok (.aaload, 1) := by decide +kernel
theorem dX11_strike_54 : decode cX11_strike 54 = .ok (.iload_n 2, 1) := by decide +kernel
theorem dX11_strike_55 : decode cX11_strike 55 = .ok (.iload_n 3, 1) := by decide +kernel
theorem dX11_strike_56 : decode cX11_strike 56 = .ok (.iload 4, 2) := by decide +kernel
theorem dX11_strike_58 : decode cX11_strike 58 = .ok (.invokevirtual 343, 3) := by decide +kernel
theorem dX11_strike_61 : decode cX11_strike 61 = .ok (.lreturn, 1) := by decide +kernel
theorem dX11_draws_0 : decode cX11_draws 0 = .ok (.iload_n 1, 1) := by decide +kernel
theorem dX11_draws_1 : decode cX11_draws 1 = .ok (.invokestatic 252, 3) := by decide +kernel
theorem dX11_draws_4 : decode cX11_draws 4 = .ok (.ifCond .eq 12, 3) := by decide +kernel
theorem dX11_draws_7 : decode cX11_draws 7 = .ok (.iload_n 2, 1) := by decide +kernel
theorem dX11_draws_8 : decode cX11_draws 8 = .ok (.iconst 1, 1) := by decide +kernel
theorem dX11_draws_9 : decode cX11_draws 9 = .ok (.iconst 5, 1) := by decide +kernel
theorem dX11_draws_10 : decode cX11_draws 10 = .ok (.invokestatic 133, 3) := by decide +kernel
theorem dX11_draws_13 : decode cX11_draws 13 = .ok (.ifCond .ne 5, 3) := by decide +kernel
theorem dX11_draws_16 : decode cX11_draws 16 = .ok (.iconst (-1), 1) := by decide +kernel
theorem dX11_draws_17 : decode cX11_draws 17 = .ok (.ireturn, 1) := by decide +kernel
theorem dX11_draws_18 : decode cX11_draws 18 = .ok (.aload_n 0, 1) := by decide +kernel
theorem dX11_draws_19 : decode cX11_draws 19 = .ok (.getfield 35, 3) := by decide +kernel
theorem dX11_draws_22 : decode cX11_draws 22 = .ok (.getfield 255, 3) := by decide +kernel
theorem dX11_draws_25 : decode cX11_draws 25 = .ok (.iload_n 1, 1) := by decide +kernel
theorem dX11_draws_26 : decode cX11_draws 26 = .ok (.aaload, 1) := by decide +kernel
theorem dX11_draws_27 : decode cX11_draws 27 = .ok (.iload_n 2, 1) := by decide +kernel
theorem dX11_draws_28 : decode cX11_draws 28 = .ok (.iload_n 3, 1) := by decide +kernel
theorem dX11_draws_29 : decode cX11_draws 29 = .ok (.invokevirtual 346, 3) := by decide +kernel
theorem dX11_draws_32 : decode cX11_draws 32 = .ok (.ireturn, 1) := by decide +kernel
theorem dX11_rivals_0 : decode cX11_rivals 0 = .ok (.iload_n 1, 1) := by decide +kernel
theorem dX11_rivals_1 : decode cX11_rivals 1 = .ok (.invokestatic 252, 3) := by decide +kernel
theorem dX11_rivals_4 : decode cX11_rivals 4 = .ok (.ifCond .eq 12, 3) := by decide +kernel
theorem dX11_rivals_7 : decode cX11_rivals 7 = .ok (.iload_n 2, 1) := by decide +kernel
theorem dX11_rivals_8 : decode cX11_rivals 8 = .ok (.iconst 0, 1) := by decide +kernel
theorem dX11_rivals_9 : decode cX11_rivals 9 = .ok (.iconst 2, 1) := by decide +kernel
theorem dX11_rivals_10 : decode cX11_rivals 10 = .ok (.invokestatic 133, 3) := by decide +kernel
theorem dX11_rivals_13 : decode cX11_rivals 13 = .ok (.ifCond .ne 5, 3) := by decide +kernel
theorem dX11_rivals_16 : decode cX11_rivals 16 = .ok (.iconst (-1), 1) := by decide +kernel
theorem dX11_rivals_17 : decode cX11_rivals 17 = .ok (.ireturn, 1) := by decide +kernel
theorem dX11_rivals_18 : decode cX11_rivals 18 = .ok (.aload_n 0, 1) := by decide +kernel
theorem dX11_rivals_19 : decode cX11_rivals 19 = .ok (.getfield 35, 3) := by decide +kernel
theorem dX11_rivals_22 : decode cX11_rivals 22 = .ok (.getfield 255, 3) := by decide +kernel
theorem dX11_rivals_25 : decode cX11_rivals 25 = .ok (.iload_n 1, 1) := by decide +kernel
theorem dX11_rivals_26 : decode cX11_rivals 26 = .ok (.aaload, 1) := by decide +kernel
theorem dX11_rivals_27 : decode cX11_rivals 27 = .ok (.astore 4, 2) := by decide +kernel
theorem dX11_rivals_29 : decode cX11_rivals 29 = .ok (.aload 4, 2) := by decide +kernel
theorem dX11_rivals_31 : decode cX11_rivals 31 = .ok (.getfield 263, 3) := by decide +kernel
theorem dX11_rivals_34 : decode cX11_rivals 34 = .ok (.ifCond .ne 6, 3) := by decide +kernel
theorem dX11_rivals_37 : decode cX11_rivals 37 = .ok (.bipush (-2), 2) := by decide +kernel
theorem dX11_rivals_39 : decode cX11_rivals 39 = .ok (.ireturn, 1) := by decide +kernel
theorem dX11_rivals_40 : decode cX11_rivals 40 = .ok (.iconst 0, 1) := by decide +kernel
theorem dX11_rivals_41 : decode cX11_rivals 41 = .ok (.istore 5, 2) := by decide +kernel
theorem dX11_rivals_43 : decode cX11_rivals 43 = .ok (.iconst 0, 1) := by decide +kernel
theorem dX11_rivals_44 : decode cX11_rivals 44 = .ok (.istore 6, 2) := by decide +kernel
theorem dX11_rivals_46 : decode cX11_rivals 46 = .ok (.iload 6, 2) := by decide +kernel
theorem dX11_rivals_48 : decode cX11_rivals 48 = .ok (.iconst 2, 1) := by decide +kernel
theorem dX11_rivals_49 : decode cX11_rivals 49 = .ok (.aload 4, 2) := by decide +kernel
theorem dX11_rivals_51 : decode cX11_rivals 51 = .ok (.getfield 263, 3) := by decide +kernel
theorem dX11_rivals_54 : decode cX11_rivals 54 = .ok (.imul, 1) := by decide +kernel
theorem dX11_rivals_55 : decode cX11_rivals 55 = .ok (.iconst 1, 1) := by decide +kernel
theorem dX11_rivals_56 : decode cX11_rivals 56 = .ok (.isub, 1) := by decide +kernel
theorem dX11_rivals_57 : decode cX11_rivals 57 = .ok (.if_icmp .ge 148, 3) := by decide +kernel
theorem dX11_rivals_60 : decode cX11_rivals 60 = .ok (.iload 6, 2) := by decide +kernel
theorem dX11_rivals_62 : decode cX11_rivals 62 = .ok (.aload 4, 2) := by decide +kernel
theorem dX11_rivals_64 : decode cX11_rivals 64 = .ok (.getfield 263, 3) := by decide +kernel
theorem dX11_rivals_67 : decode cX11_rivals 67 = .ok (.if_icmp .ge 7, 3) := by decide +kernel
theorem dX11_rivals_70 : decode cX11_rivals 70 = .ok (.iconst 1, 1) := by decide +kernel
theorem dX11_rivals_71 : decode cX11_rivals 71 = .ok (.goto 4, 3) := by decide +kernel
theorem dX11_rivals_74 : decode cX11_rivals 74 = .ok (.iconst 0, 1) := by decide +kernel
theorem dX11_rivals_75 : decode cX11_rivals 75 = .ok (.istore 7, 2) := by decide +kernel
theorem dX11_rivals_77 : decode cX11_rivals 77 = .ok (.iload 7, 2) := by decide +kernel
theorem dX11_rivals_79 : decode cX11_rivals 79 = .ok (.ifCond .eq 8, 3) := by decide +kernel
theorem dX11_rivals_82 : decode cX11_rivals 82 = .ok (.iload 6, 2) := by decide +kernel
theorem dX11_rivals_84 : decode cX11_rivals 84 = .ok (.goto 11, 3) := by decide +kernel
theorem dX11_rivals_87 : decode cX11_rivals 87 = .ok (.iload 6, 2) := by decide +kernel
theorem dX11_rivals_89 : decode cX11_rivals 89 = .ok (.aload 4, 2) := by decide +kernel
theorem dX11_rivals_91 : decode cX11_rivals 91 = .ok (.getfield 263, 3) := by decide +kernel
theorem dX11_rivals_94 : decode cX11_rivals 94 = .ok (.isub, 1) := by decide +kernel
theorem dX11_rivals_95 : decode cX11_rivals 95 = .ok (.istore 8, 2) := by decide +kernel
theorem dX11_rivals_97 : decode cX11_rivals 97 = .ok (.iload 7, 2) := by decide +kernel
theorem dX11_rivals_99 : decode cX11_rivals 99 = .ok (.ifCond .eq 8, 3) := by decide +kernel
theorem dX11_rivals_102 : decode cX11_rivals 102 = .ok (.bipush (-6), 2) := by decide +kernel
theorem dX11_rivals_104 : decode cX11_rivals 104 = .ok (.goto 4, 3) := by decide +kernel
theorem dX11_rivals_107 : decode cX11_rivals 107 = .ok (.iconst 1, 1) := by decide +kernel
theorem dX11_rivals_108 : decode cX11_rivals 108 = .ok (.istore 9, 2) := by decide +kernel
theorem dX11_rivals_110 : decode cX11_rivals 110 = .ok (.iload 7, 2) := by decide +kernel
theorem dX11_rivals_112 : decode cX11_rivals 112 = .ok (.ifCond .eq 8, 3) := by decide +kernel
theorem dX11_rivals_115 : decode cX11_rivals 115 = .ok (.bipush 6, 2) := by decide +kernel
theorem dX11_rivals_117 : decode cX11_rivals 117 = .ok (.goto 5, 3) := by decide +kernel
theorem dX11_rivals_120 : decode cX11_rivals 120 = .ok (.bipush 36, 2) := by decide +kernel
theorem dX11_rivals_122 : decode cX11_rivals 122 = .ok (.istore 10, 2) := by decide +kernel
theorem dX11_rivals_124 : decode cX11_rivals 124 = .ok (.iload 9, 2) := by decide +kernel
theorem dX11_rivals_126 : decode cX11_rivals 126 = .ok (.istore 11, 2) := by decide +kernel
theorem dX11_rivals_128 : decode cX11_rivals 128 = .ok (.iload 11, 2) := by decide +kernel
theorem dX11_rivals_130 : decode cX11_rivals 130 = .ok (.iload 10, 2) := by decide +kernel
theorem dX11_rivals_132 : decode cX11_rivals 132 = .ok (.if_icmp .gt 67, 3) := by decide +kernel
theorem dX11_rivals_135 : decode cX11_rivals 135 = .ok (.aload_n 0, 1) := by decide +kernel
theorem dX11_rivals_136 : decode cX11_rivals 136 = .ok (.aload 4, 2) := by decide +kernel
theorem dX11_rivals_138 : decode cX11_rivals 138 = .ok (.iload 7, 2) := by decide +kernel
theorem dX11_rivals_140 : decode cX11_rivals 140 = .ok (.iload 8, 2) := by decide +kernel
theorem dX11_rivals_142 : decode cX11_rivals 142 = .ok (.iload 11, 2) := by decide +kernel
theorem dX11_rivals_144 : decode cX11_rivals 144 = .ok (.iload_n 2, 1) := by decide +kernel
theorem dX11_rivals_145 : decode cX11_rivals 145 = .ok (.invokevirtual 350, 3) := by decide +kernel
theorem dX11_rivals_148 : decode cX11_rivals 148 = .ok (.ifCond .ne 6, 3) := by decide +kernel
theorem dX11_rivals_151 : decode cX11_rivals 151 = .ok (.goto 42, 3) := by decide +kernel
theorem dX11_rivals_154 : decode cX11_rivals 154 = .ok (.iload_n 3, 1) := by decide +kernel
theorem dX11_rivals_155 : decode cX11_rivals 155 = .ok (.ifCond .eq 35, 3) := by decide +kernel
theorem dX11_rivals_158 : decode cX11_rivals 158 = .ok (.iload 7, 2) := by decide +kernel
theorem dX11_rivals_160 : decode cX11_rivals 160 = .ok (.ifCond .eq 17, 3) := by decide +kernel
theorem dX11_rivals_163 : decode cX11_rivals 163 = .ok (.bipush 100, 2) := by decide +kernel
theorem dX11_rivals_165 : decode cX11_rivals 165 = .ok (.iload 8, 2) := by decide +kernel
theorem dX11_rivals_167 : decode cX11_rivals 167 = .ok (.imul, 1) := by decide +kernel
theorem dX11_rivals_168 : decode cX11_rivals 168 = .ok (.iload 11, 2) := by decide +kernel
theorem dX11_rivals_170 : decode cX11_rivals 170 = .ok (.iadd, 1) := by decide +kernel
theorem dX11_rivals_171 : decode cX11_rivals 171 = .ok (.bipush 6, 2) := by decide +kernel
theorem dX11_rivals_173 : decode cX11_rivals 173 = .ok (.iadd, 1) := by decide +kernel
theorem dX11_rivals_174 : decode cX11_rivals 174 = .ok (.goto 15, 3) := by decide +kernel
theorem dX11_rivals_177 : decode cX11_rivals 177 = .ok (.sipush 1000, 3) := by decide +kernel
theorem dX11_rivals_180 : decode cX11_rivals 180 = .ok (.bipush 100, 2) := by decide +kernel
theorem dX11_rivals_182 : decode cX11_rivals 182 = .ok (.iload 8, 2) := by decide +kernel
theorem dX11_rivals_184 : decode cX11_rivals 184 = .ok (.imul, 1) := by decide +kernel
theorem dX11_rivals_185 : decode cX11_rivals 185 = .ok (.iadd, 1) := by decide +kernel
theorem dX11_rivals_186 : decode cX11_rivals 186 = .ok (.iload 11, 2) := by decide +kernel
theorem dX11_rivals_188 : decode cX11_rivals 188 = .ok (.iadd, 1) := by decide +kernel
theorem dX11_rivals_189 : decode cX11_rivals 189 = .ok (.ireturn, 1) := by decide +kernel
theorem dX11_rivals_190 : decode cX11_rivals 190 = .ok (.iinc 5 1, 3) := by decide +kernel
theorem dX11_rivals_193 : decode cX11_rivals 193 = .ok (.iinc 11 1, 3) := by decide +kernel
theorem dX11_rivals_196 : decode cX11_rivals 196 = .ok (.goto (-68), 3) := by decide +kernel
theorem dX11_rivals_199 : decode cX11_rivals 199 = .ok (.iinc 6 1, 3) := by decide +kernel
theorem dX11_rivals_202 : decode cX11_rivals 202 = .ok (.goto (-156), 3) := by decide +kernel
theorem dX11_rivals_205 : decode cX11_rivals 205 = .ok (.iload_n 3, 1) := by decide +kernel
theorem dX11_rivals_206 : decode cX11_rivals 206 = .ok (.ifCond .eq 7, 3) := by decide +kernel
theorem dX11_rivals_209 : decode cX11_rivals 209 = .ok (.iconst (-1), 1) := by decide +kernel
theorem dX11_rivals_210 : decode cX11_rivals 210 = .ok (.goto 5, 3) := by decide +kernel
theorem dX11_rivals_213 : decode cX11_rivals 213 = .ok (.iload 5, 2) := by decide +kernel
theorem dX11_rivals_215 : decode cX11_rivals 215 = .ok (.ireturn, 1) := by decide +kernel
theorem dX11_census_0 : decode cX11_census 0 = .ok (.iload_n 1, 1) := by decide +kernel
theorem dX11_census_1 : decode cX11_census 1 = .ok (.bipush (-12), 2) := by decide +kernel
theorem dX11_census_3 : decode cX11_census 3 = .ok (.bipush 12, 2) := by decide +kernel
theorem dX11_census_5 : decode cX11_census 5 = .ok (.invokestatic 133, 3) := by decide +kernel
theorem dX11_census_8 : decode cX11_census 8 = .ok (.ifCond .eq 12, 3) := by decide +kernel
theorem dX11_census_11 : decode cX11_census 11 = .ok (.iload_n 2, 1) := by decide +kernel
theorem dX11_census_12 : decode cX11_census 12 = .ok (.iconst 0, 1) := by decide +kernel
theorem dX11_census_13 : decode cX11_census 13 = .ok (.iconst 2, 1) := by decide +kernel
theorem dX11_census_14 : decode cX11_census 14 = .ok (.invokestatic 133, 3) := by decide +kernel
theorem dX11_census_17 : decode cX11_census 17 = .ok (.ifCond .ne 5, 3) := by decide +kernel
theorem dX11_census_20 : decode cX11_census 20 = .ok (.iconst (-1), 1) := by decide +kernel
theorem dX11_census_21 : decode cX11_census 21 = .ok (.ireturn, 1) := by decide +kernel
theorem dX11_census_22 : decode cX11_census 22 = .ok (.iconst 0, 1) := by decide +kernel
theorem dX11_census_23 : decode cX11_census 23 = .ok (.istore_n 3, 1) := by decide +kernel
theorem dX11_census_24 : decode cX11_census 24 = .ok (.aload_n 0, 1) := by decide +kernel
theorem dX11_census_25 : decode cX11_census 25 = .ok (.getfield 80, 3) := by decide +kernel
theorem dX11_census_28 : decode cX11_census 28 = .ok (.iconst 2, 1) := by decide +kernel
theorem dX11_census_29 : decode cX11_census 29 = .ok (.invokevirtual 259, 3) := by decide +kernel
theorem dX11_census_32 : decode cX11_census 32 = .ok (.bipush (-6), 2) := by decide +kernel
theorem dX11_census_34 : decode cX11_census 34 = .ok (.istore 4, 2) := by decide +kernel
theorem dX11_census_36 : decode cX11_census 36 = .ok (.iload 4, 2) := by decide +kernel
theorem dX11_census_38 : decode cX11_census 38 = .ok (.bipush 6, 2) := by decide +kernel
theorem dX11_census_40 : decode cX11_census 40 = .ok (.if_icmp .gt 98, 3) := by decide +kernel
theorem dX11_census_43 : decode cX11_census 43 = .ok (.iconst 1, 1) := by decide +kernel
theorem dX11_census_44 : decode cX11_census 44 = .ok (.iload_n 1, 1) := by decide +kernel
theorem dX11_census_45 : decode cX11_census 45 = .ok (.iload 4, 2) := by decide +kernel
theorem dX11_census_47 : decode cX11_census 47 = .ok (.isub, 1) := by decide +kernel
theorem dX11_census_48 : decode cX11_census 48 = .ok (.invokestatic 274, 3) := by decide +kernel
theorem dX11_census_51 : decode cX11_census 51 = .ok (.ifCond .ne 6, 3) := by decide +kernel
theorem dX11_census_54 : decode cX11_census 54 = .ok (.goto 78, 3) := by decide +kernel
theorem dX11_census_57 : decode cX11_census 57 = .ok (.aload_n 0, 1) := by decide +kernel
theorem dX11_census_58 : decode cX11_census 58 = .ok (.getfield 80, 3) := by decide +kernel
theorem dX11_census_61 : decode cX11_census 61 = .ok (.getfield 266, 3) := by decide +kernel
theorem dX11_census_64 : decode cX11_census 64 = .ok (.iconst 0, 1) := by decide +kernel
theorem dX11_census_65 : decode cX11_census 65 = .ok (.iload 4, 2) := by decide +kernel
theorem dX11_census_67 : decode cX11_census 67 = .ok (.iastore, 1) := by decide +kernel
theorem dX11_census_68 : decode cX11_census 68 = .ok (.aload_n 0, 1) := by decide +kernel
theorem dX11_census_69 : decode cX11_census 69 = .ok (.getfield 80, 3) := by decide +kernel
theorem dX11_census_72 : decode cX11_census 72 = .ok (.getfield 266, 3) := by decide +kernel
theorem dX11_census_75 : decode cX11_census 75 = .ok (.iconst 1, 1) := by decide +kernel
theorem dX11_census_76 : decode cX11_census 76 = .ok (.iload_n 1, 1) := by decide +kernel
theorem dX11_census_77 : decode cX11_census 77 = .ok (.iload 4, 2) := by decide +kernel
theorem dX11_census_79 : decode cX11_census 79 = .ok (.isub, 1) := by decide +kernel
theorem dX11_census_80 : decode cX11_census 80 = .ok (.iastore, 1) := by decide +kernel
theorem dX11_census_81 : decode cX11_census 81 = .ok (.iconst 1, 1) := by decide +kernel
theorem dX11_census_82 : decode cX11_census 82 = .ok (.istore 5, 2) := by decide +kernel
theorem dX11_census_84 : decode cX11_census 84 = .ok (.iload 5, 2) := by decide +kernel
theorem dX11_census_86 : decode cX11_census 86 = .ok (.bipush 36, 2) := by decide +kernel
theorem dX11_census_88 : decode cX11_census 88 = .ok (.if_icmp .gt 44, 3) := by decide +kernel
theorem dX11_census_91 : decode cX11_census 91 = .ok (.aload_n 0, 1) := by decide +kernel
theorem dX11_census_92 : decode cX11_census 92 = .ok (.getfield 80, 3) := by decide +kernel
theorem dX11_census_95 : decode cX11_census 95 = .ok (.getfield 268, 3) := by decide +kernel
theorem dX11_census_98 : decode cX11_census 98 = .ok (.iconst 0, 1) := by decide +kernel
theorem dX11_census_99 : decode cX11_census 99 = .ok (.iload 5, 2) := by decide +kernel
theorem dX11_census_101 : decode cX11_census 101 = .ok (.iastore, 1) := by decide +kernel
theorem dX11_census_102 : decode cX11_census 102 = .ok (.aload_n 0, 1) := by decide +kernel
theorem dX11_census_103 : decode cX11_census 103 = .ok (.getfield 80, 3) := by decide +kernel
theorem dX11_census_106 : decode cX11_census 106 = .ok (.iload_n 2, 1) := by decide +kernel
theorem dX11_census_107 : decode cX11_census 107 = .ok (.ifCond .ne 7, 3) := by decide +kernel
theorem dX11_census_110 : decode cX11_census 110 = .ok (.iconst 0, 1) := by decide +kernel
theorem dX11_census_111 : decode cX11_census 111 = .ok (.goto 6, 3) := by decide +kernel
theorem dX11_census_114 : decode cX11_census 114 = .ok (.iconst 3, 1) := by decide +kernel
theorem dX11_census_115 : decode cX11_census 115 = .ok (.iload_n 2, 1) := by decide +kernel
theorem dX11_census_116 : decode cX11_census 116 = .ok (.isub, 1) := by decide +kernel
theorem dX11_census_117 : decode cX11_census 117 = .ok (.invokevirtual 354, 3) := by decide +kernel
theorem dX11_census_120 : decode cX11_census 120 = .ok (.ifCond .eq 6, 3) := by decide +kernel
theorem dX11_census_123 : decode cX11_census 123 = .ok (.iinc 3 1, 3) := by decide +kernel
theorem dX11_census_126 : decode cX11_census 126 = .ok (.iinc 5 1, 3) := by decide +kernel
theorem dX11_census_129 : decode cX11_census 129 = .ok (.goto (-45), 3) := by decide +kernel
theorem dX11_census_132 : decode cX11_census 132 = .ok (.iinc 4 1, 3) := by decide +kernel
theorem dX11_census_135 : decode cX11_census 135 = .ok (.goto (-99), 3) := by decide +kernel
theorem dX11_census_138 : decode cX11_census 138 = .ok (.iload_n 3, 1) := by decide +kernel
theorem dX11_census_139 : decode cX11_census 139 = .ok (.ireturn, 1) := by decide +kernel
theorem dX11_join_0 : decode cX11_join 0 = .ok (.iload_n 1, 1) := by decide +kernel
theorem dX11_join_1 : decode cX11_join 1 = .ok (.invokestatic 252, 3) := by decide +kernel
theorem dX11_join_4 : decode cX11_join 4 = .ok (.ifCond .eq 18, 3) := by decide +kernel
theorem dX11_join_7 : decode cX11_join 7 = .ok (.iload_n 2, 1) := by decide +kernel
theorem dX11_join_8 : decode cX11_join 8 = .ok (.invokestatic 252, 3) := by decide +kernel
theorem dX11_join_11 : decode cX11_join 11 = .ok (.ifCond .eq 11, 3) := by decide +kernel
theorem dX11_join_14 : decode cX11_join 14 = .ok (.iconst 0, 1) := by decide +kernel
theorem dX11_join_15 : decode cX11_join 15 = .ok (.iload_n 3, 1) := by decide +kernel
theorem dX11_join_16 : decode cX11_join 16 = .ok (.invokestatic 274, 3) := by decide +kernel
theorem dX11_join_19 : decode cX11_join 19 = .ok (.ifCond .ne 5, 3) := by decide +kernel
theorem dX11_join_22 : decode cX11_join 22 = .ok (.iconst (-1), 1) := by decide +kernel
theorem dX11_join_23 : decode cX11_join 23 = .ok (.ireturn, 1) := by decide +kernel
theorem dX11_join_24 : decode cX11_join 24 = .ok (.aload_n 0, 1) := by decide +kernel
theorem dX11_join_25 : decode cX11_join 25 = .ok (.getfield 35, 3) := by decide +kernel
theorem dX11_join_28 : decode cX11_join 28 = .ok (.getfield 255, 3) := by decide +kernel
theorem dX11_join_31 : decode cX11_join 31 = .ok (.iload_n 1, 1) := by decide +kernel
theorem dX11_join_32 : decode cX11_join 32 = .ok (.aaload, 1) := by decide +kernel
theorem dX11_join_33 : decode cX11_join 33 = .ok (.astore 4, 2) := by decide +kernel
theorem dX11_join_35 : decode cX11_join 35 = .ok (.aload_n 0, 1) := by decide +kernel
theorem dX11_join_36 : decode cX11_join 36 = .ok (.getfield 35, 3) := by decide +kernel
theorem dX11_join_39 : decode cX11_join 39 = .ok (.getfield 255, 3) := by decide +kernel
theorem dX11_join_42 : decode cX11_join 42 = .ok (.iload_n 2, 1) := by decide +kernel
theorem dX11_join_43 : decode cX11_join 43 = .ok (.aaload, 1) := by decide +kernel
theorem dX11_join_44 : decode cX11_join 44 = .ok (.astore 5, 2) := by decide +kernel
theorem dX11_join_46 : decode cX11_join 46 = .ok (.aload 4, 2) := by decide +kernel
theorem dX11_join_48 : decode cX11_join 48 = .ok (.getfield 263, 3) := by decide +kernel
theorem dX11_join_51 : decode cX11_join 51 = .ok (.ifCond .eq 11, 3) := by decide +kernel
theorem dX11_join_54 : decode cX11_join 54 = .ok (.aload 5, 2) := by decide +kernel
theorem dX11_join_56 : decode cX11_join 56 = .ok (.getfield 263, 3) := by decide +kernel
theorem dX11_join_59 : decode cX11_join 59 = .ok (.ifCond .ne 6, 3) := by decide +kernel
theorem dX11_join_62 : decode cX11_join 62 = .ok (.bipush (-2), 2) := by decide +kernel
theorem dX11_join_64 : decode cX11_join 64 = .ok (.ireturn, 1) := by decide +kernel
theorem dX11_join_65 : decode cX11_join 65 = .ok (.aload 4, 2) := by decide +kernel
theorem dX11_join_67 : decode cX11_join 67 = .ok (.getfield 263, 3) := by decide +kernel
theorem dX11_join_70 : decode cX11_join 70 = .ok (.aload 5, 2) := by decide +kernel
theorem dX11_join_72 : decode cX11_join 72 = .ok (.getfield 263, 3) := by decide +kernel
theorem dX11_join_75 : decode cX11_join 75 = .ok (.iadd, 1) := by decide +kernel
theorem dX11_join_76 : decode cX11_join 76 = .ok (.iconst 5, 1) := by decide +kernel
theorem dX11_join_77 : decode cX11_join 77 = .ok (.if_icmp .le 6, 3) := by decide +kernel
theorem dX11_join_80 : decode cX11_join 80 = .ok (.bipush (-3), 2) := by decide +kernel
theorem dX11_join_82 : decode cX11_join 82 = .ok (.ireturn, 1) := by decide +kernel
theorem dX11_join_83 : decode cX11_join 83 = .ok (.aload 4, 2) := by decide +kernel
theorem dX11_join_85 : decode cX11_join 85 = .ok (.aload 5, 2) := by decide +kernel
theorem dX11_join_87 : decode cX11_join 87 = .ok (.iload_n 3, 1) := by decide +kernel
theorem dX11_join_88 : decode cX11_join 88 = .ok (.invokevirtual 357, 3) := by decide +kernel
theorem dX11_join_91 : decode cX11_join 91 = .ok (.aload 4, 2) := by decide +kernel
theorem dX11_join_93 : decode cX11_join 93 = .ok (.getfield 263, 3) := by decide +kernel
theorem dX11_join_96 : decode cX11_join 96 = .ok (.ireturn, 1) := by decide +kernel
theorem dX11_nearest_0 : decode cX11_nearest 0 = .ok (.iload_n 1, 1) := by decide +kernel
theorem dX11_nearest_1 : decode cX11_nearest 1 = .ok (.invokestatic 252, 3) := by decide +kernel
theorem dX11_nearest_4 : decode cX11_nearest 4 = .ok (.ifCond .eq 13, 3) := by decide +kernel
theorem dX11_nearest_7 : decode cX11_nearest 7 = .ok (.iload_n 2, 1) := by decide +kernel
theorem dX11_nearest_8 : decode cX11_nearest 8 = .ok (.iconst 1, 1) := by decide +kernel
theorem dX11_nearest_9 : decode cX11_nearest 9 = .ok (.bipush 50, 2) := by decide +kernel
theorem dX11_nearest_11 : decode cX11_nearest 11 = .ok (.invokestatic 133, 3) := by decide +kernel
theorem dX11_nearest_14 : decode cX11_nearest 14 = .ok (.ifCond .ne 5, 3) := by decide +kernel
theorem dX11_nearest_17 : decode cX11_nearest 17 = .ok (.iconst (-1), 1) := by decide +kernel
theorem dX11_nearest_18 : decode cX11_nearest 18 = .ok (.ireturn, 1) := by decide +kernel
theorem dX11_nearest_19 : decode cX11_nearest 19 = .ok (.aload_n 0, 1) := by decide +kernel
theorem dX11_nearest_20 : decode cX11_nearest 20 = .ok (.getfield 35, 3) := by decide +kernel
theorem dX11_nearest_23 : decode cX11_nearest 23 = .ok (.getfield 255, 3) := by decide +kernel
theorem dX11_nearest_26 : decode cX11_nearest 26 = .ok (.iload_n 1, 1) := by decide +kernel
theorem dX11_nearest_27 : decode cX11_nearest 27 = .ok (.aaload, 1) := by decide +kernel
theorem dX11_nearest_28 : decode cX11_nearest 28 = .ok (.astore_n 3, 1) := by decide +kernel
theorem dX11_nearest_29 : decode cX11_nearest 29 = .ok (.aload_n 3, 1) := by decide +kernel
theorem dX11_nearest_30 : decode cX11_nearest 30 = .ok (.getfield 263, 3) := by decide +kernel
theorem dX11_nearest_33 : decode cX11_nearest 33 = .ok (.ifCond .ne 6, 3) := by decide +kernel
theorem dX11_nearest_36 : decode cX11_nearest 36 = .ok (.bipush (-2), 2) := by decide +kernel
theorem dX11_nearest_38 : decode cX11_nearest 38 = .ok (.ireturn, 1) := by decide +kernel
theorem dX11_nearest_39 : decode cX11_nearest 39 = .ok (.aload_n 3, 1) := by decide +kernel
theorem dX11_nearest_40 : decode cX11_nearest 40 = .ok (.getfield 263, 3) := by decide +kernel
theorem dX11_nearest_43 : decode cX11_nearest 43 = .ok (.iconst 1, 1) := by decide +kernel
theorem dX11_nearest_44 : decode cX11_nearest 44 = .ok (.if_icmp .ne 8, 3) := by decide +kernel
theorem dX11_nearest_47 : decode cX11_nearest 47 = .ok (.bipush (-3), 2) := by decide +kernel
theorem dX11_nearest_49 : decode cX11_nearest 49 = .ok (.goto 8, 3) := by decide +kernel
theorem dX11_nearest_52 : decode cX11_nearest 52 = .ok (.aload_n 3, 1) := by decide +kernel
theorem dX11_nearest_53 : decode cX11_nearest 53 = .ok (.iload_n 2, 1) := by decide +kernel
theorem dX11_nearest_54 : decode cX11_nearest 54 = .ok (.invokevirtual 361, 3) := by decide +kernel
theorem dX11_nearest_57 : decode cX11_nearest 57 = .ok (.ireturn, 1) := by decide +kernel
theorem dX11_all_0 : decode cX11_all 0 = .ok (.aload_n 0, 1) := by decide +kernel
theorem dX11_all_1 : decode cX11_all 1 = .ok (.iconst 5, 1) := by decide +kernel
theorem dX11_all_2 : decode cX11_all 2 = .ok (.iconst 0, 1) := by decide +kernel
theorem dX11_all_3 : decode cX11_all 3 = .ok (.invokevirtual 364, 3) := by decide +kernel
theorem dX11_all_6 : decode cX11_all 6 = .ok (.ireturn, 1) := by decide +kernel
theorem dX11_lay_0 : decode cX11_lay 0 = .ok (.aload_n 0, 1) := by decide +kernel
theorem dX11_lay_1 : decode cX11_lay 1 = .ok (.invokevirtual 147, 3) := by decide +kernel
theorem dX11_lay_4 : decode cX11_lay 4 = .ok (.ifCond .eq 14, 3) := by decide +kernel
theorem dX11_lay_7 : decode cX11_lay 7 = .ok (.iload_n 1, 1) := by decide +kernel
theorem dX11_lay_8 : decode cX11_lay 8 = .ok (.ifCond .lt 10, 3) := by decide +kernel
theorem dX11_lay_11 : decode cX11_lay 11 = .ok (.iload_n 2, 1) := by decide +kernel
theorem dX11_lay_12 : decode cX11_lay 12 = .ok (.invokestatic 252, 3) := by decide +kernel
theorem dX11_lay_15 : decode cX11_lay 15 = .ok (.ifCond .ne 5, 3) := by decide +kernel
theorem dX11_lay_18 : decode cX11_lay 18 = .ok (.iconst (-1), 1) := by decide +kernel
theorem dX11_lay_19 : decode cX11_lay 19 = .ok (.ireturn, 1) := by decide +kernel
theorem dX11_lay_20 : decode cX11_lay 20 = .ok (.aload_n 0, 1) := by decide +kernel
theorem dX11_lay_21 : decode cX11_lay 21 = .ok (.getfield 35, 3) := by decide +kernel
theorem dX11_lay_24 : decode cX11_lay 24 = .ok (.getfield 119, 3) := by decide +kernel
theorem dX11_lay_27 : decode cX11_lay 27 = .ok (.getfield 126, 3) := by decide +kernel
theorem dX11_lay_30 : decode cX11_lay 30 = .ok (.iconst 3, 1) := by decide +kernel
theorem dX11_lay_31 : decode cX11_lay 31 = .ok (.if_icmp .le 6, 3) := by decide +kernel
theorem dX11_lay_34 : decode cX11_lay 34 = .ok (.bipush (-2), 2) := by decide +kernel
theorem dX11_lay_36 : decode cX11_lay 36 = .ok (.ireturn, 1) := by decide +kernel
theorem dX11_lay_37 : decode cX11_lay 37 = .ok (.aload_n 0, 1) := by decide +kernel
theorem dX11_lay_38 : decode cX11_lay 38 = .ok (.invokevirtual 367, 3) := by decide +kernel
theorem dX11_lay_41 : decode cX11_lay 41 = .ok (.iconst 0, 1) := by decide +kernel
theorem dX11_lay_42 : decode cX11_lay 42 = .ok (.istore_n 3, 1) := by decide +kernel
theorem dX11_lay_43 : decode cX11_lay 43 = .ok (.iconst 0, 1) := by decide +kernel
theorem dX11_lay_44 : decode cX11_lay 44 = .ok (.istore 4, 2) := by decide +kernel
theorem dX11_lay_46 : decode cX11_lay 46 = .ok (.iload 4, 2) := by decide +kernel
theorem dX11_lay_48 : decode cX11_lay 48 = .ok (.aload_n 0, 1) := by decide +kernel
theorem dX11_lay_49 : decode cX11_lay 49 = .ok (.getfield 66, 3) := by decide +kernel
theorem dX11_lay_52 : decode cX11_lay 52 = .ok (.invokevirtual 370, 3) := by decide +kernel
theorem dX11_lay_55 : decode cX11_lay 55 = .ok (.if_icmp .ge 64, 3) := by decide +kernel
theorem dX11_lay_58 : decode cX11_lay 58 = .ok (.aload_n 0, 1) := by decide +kernel
theorem dX11_lay_59 : decode cX11_lay 59 = .ok (.getfield 66, 3) := by decide +kernel
theorem dX11_lay_62 : decode cX11_lay 62 = .ok (.iload 4, 2) := by decide +kernel
theorem dX11_lay_64 : decode cX11_lay 64 = .ok (.invokevirtual 373, 3) := by decide +kernel
theorem dX11_lay_67 : decode cX11_lay 67 = .ok (.ifCond .ne 6, 3) := by decide +kernel
theorem dX11_lay_70 : decode cX11_lay 70 = .ok (.goto 43, 3) := by decide +kernel
theorem dX11_lay_73 : decode cX11_lay 73 = .ok (.iload_n 3, 1) := by decide +kernel
theorem dX11_lay_74 : decode cX11_lay 74 = .ok (.iload_n 1, 1) := by decide +kernel
theorem dX11_lay_75 : decode cX11_lay 75 = .ok (.if_icmp .ne 35, 3) := by decide +kernel
theorem dX11_lay_78 : decode cX11_lay 78 = .ok (.aload_n 0, 1) := by decide +kernel
theorem dX11_lay_79 : decode cX11_lay 79 = .ok (.getfield 35, 3) := by decide +kernel
theorem dX11_lay_82 : decode cX11_lay 82 = .ok (.getfield 255, 3) := by decide +kernel
theorem dX11_lay_85 : decode cX11_lay 85 = .ok (.iload_n 2, 1) := by decide +kernel
theorem dX11_lay_86 : decode cX11_lay 86 = .ok (.aaload, 1) := by decide +kernel
theorem dX11_lay_87 : decode cX11_lay 87 = .ok (.aload_n 0, 1) := by decide +kernel
theorem dX11_lay_88 : decode cX11_lay 88 = .ok (.getfield 66, 3) := by decide +kernel
theorem dX11_lay_91 : decode cX11_lay 91 = .ok (.getfield 376, 3) := by decide +kernel
theorem dX11_lay_94 : decode cX11_lay 94 = .ok (.invokevirtual 337, 3) := by decide +kernel
theorem dX11_lay_97 : decode cX11_lay 97 = .ok (.aload_n 0, 1) := by decide +kernel
theorem dX11_lay_98 : decode cX11_lay 98 = .ok (.getfield 35, 3) := by decide +kernel
theorem dX11_lay_101 : decode cX11_lay 101 = .ok (.getfield 255, 3) := by decide +kernel
theorem dX11_lay_104 : decode cX11_lay 104 = .ok (.iload_n 2, 1) := by decide +kernel
theorem dX11_lay_105 : decode cX11_lay 105 = .ok (.aaload, 1) := by decide +kernel
theorem dX11_lay_106 : decode cX11_lay 106 = .ok (.getfield 263, 3) := by decide +kernel
theorem dX11_lay_109 : decode cX11_lay 109 = .ok (.ireturn, 1) := by decide +kernel
theorem dX11_lay_110 : decode cX11_lay 110 = .ok (.iinc 3 1, 3) := by decide +kernel
theorem dX11_lay_113 : decode cX11_lay 113 = .ok (.iinc 4 1, 3) := by decide +kernel
theorem dX11_lay_116 : decode cX11_lay 116 = .ok (.goto (-70), 3) := by decide +kernel
theorem dX11_lay_119 : decode cX11_lay 119 = .ok (.bipush (-3), 2) := by decide +kernel
theorem dX11_lay_121 : decode cX11_lay 121 = .ok (.ireturn, 1) := by decide +kernel
theorem dX11_unique_0 : decode cX11_unique 0 = .ok (.aload_n 0, 1) := by decide +kernel
theorem dX11_unique_1 : decode cX11_unique 1 = .ok (.iconst 4, 1) := by decide +kernel
theorem dX11_unique_2 : decode cX11_unique 2 = .ok (.iconst 0, 1) := by decide +kernel
theorem dX11_unique_3 : decode cX11_unique 3 = .ok (.invokevirtual 364, 3) := by decide +kernel
theorem dX11_unique_6 : decode cX11_unique 6 = .ok (.ireturn, 1) := by decide +kernel
theorem dX11_some_0 : decode cX11_some 0 = .ok (.iload_n 1, 1) := by decide +kernel
theorem dX11_some_1 : decode cX11_some 1 = .ok (.iconst 0, 1) := by decide +kernel
theorem dX11_some_2 : decode cX11_some 2 = .ok (.iconst 3, 1) := by decide +kernel
theorem dX11_some_3 : decode cX11_some 3 = .ok (.invokestatic 133, 3) := by decide +kernel
theorem dX11_some_6 : decode cX11_some 6 = .ok (.ifCond .eq 12, 3) := by decide +kernel
theorem dX11_some_9 : decode cX11_some 9 = .ok (.aload_n 0, 1) := by decide +kernel
theorem dX11_some_10 : decode cX11_some 10 = .ok (.iload_n 1, 1) := by decide +kernel
theorem dX11_some_11 : decode cX11_some 11 = .ok (.iload_n 2, 1) := by decide +kernel
theorem dX11_some_12 : decode cX11_some 12 = .ok (.invokevirtual 364, 3) := by decide +kernel
theorem dX11_some_15 : decode cX11_some 15 = .ok (.goto 4, 3) := by decide +kernel
theorem dX11_some_18 : decode cX11_some 18 = .ok (.iconst (-1), 1) := by decide +kernel
theorem dX11_some_19 : decode cX11_some 19 = .ok (.ireturn, 1) := by decide +kernel
theorem dX11_heard_0 : decode cX11_heard 0 = .ok (.iload_n 1, 1) := by decide +kernel
theorem dX11_heard_1 : decode cX11_heard 1 = .ok (.invokestatic 252, 3) := by decide +kernel
theorem dX11_heard_4 : decode cX11_heard 4 = .ok (.ifCond .ne 5, 3) := by decide +kernel
theorem dX11_heard_7 : decode cX11_heard 7 = .ok (.iconst (-1), 1) := by decide +kernel
theorem dX11_heard_8 : decode cX11_heard 8 = .ok (.ireturn, 1) := by decide +kernel
theorem dX11_heard_9 : decode cX11_heard 9 = .ok (.aload_n 0, 1) := by decide +kernel
theorem dX11_heard_10 : decode cX11_heard 10 = .ok (.getfield 35, 3) := by decide +kernel
theorem dX11_heard_13 : decode cX11_heard 13 = .ok (.getfield 255, 3) := by decide +kernel
theorem dX11_heard_16 : decode cX11_heard 16 = .ok (.iload_n 1, 1) := by decide +kernel
theorem dX11_heard_17 : decode cX11_heard 17 = .ok (.aaload, 1) := by decide +kernel
theorem dX11_heard_18 : decode cX11_heard 18 = .ok (.getfield 263, 3) := by decide +kernel
theorem dX11_heard_21 : decode cX11_heard 21 = .ok (.ifCond .ne 6, 3) := by decide +kernel
theorem dX11_heard_24 : decode cX11_heard 24 = .ok (.bipush (-2), 2) := by decide +kernel
theorem dX11_heard_26 : decode cX11_heard 26 = .ok (.ireturn, 1) := by decide +kernel
theorem dX11_heard_27 : decode cX11_heard 27 = .ok (.aload_n 0, 1) := by decide +kernel
theorem dX11_heard_28 : decode cX11_heard 28 = .ok (.getfield 87, 3) := by decide +kernel
theorem dX11_heard_31 : decode cX11_heard 31 = .ok (.aload_n 0, 1) := by decide +kernel
theorem dX11_heard_32 : decode cX11_heard 32 = .ok (.getfield 35, 3) := by decide +kernel
theorem dX11_heard_35 : decode cX11_heard 35 = .ok (.getfield 255, 3) := by decide +kernel
theorem dX11_heard_38 : decode cX11_heard 38 = .ok (.iload_n 1, 1) := by decide +kernel
theorem dX11_heard_39 : decode cX11_heard 39 = .ok (.aaload, 1) := by decide +kernel
theorem dX11_heard_40 : decode cX11_heard 40 = .ok (.invokevirtual 379, 3) := by decide +kernel
theorem dX11_heard_43 : decode cX11_heard 43 = .ok (.ifCond .ne 6, 3) := by decide +kernel
theorem dX11_heard_46 : decode cX11_heard 46 = .ok (.bipush (-3), 2) := by decide +kernel
theorem dX11_heard_48 : decode cX11_heard 48 = .ok (.ireturn, 1) := by decide +kernel
theorem dX11_heard_49 : decode cX11_heard 49 = .ok (.aload_n 0, 1) := by decide +kernel
theorem dX11_heard_50 : decode cX11_heard 50 = .ok (.getfield 35, 3) := by decide +kernel
theorem dX11_heard_53 : decode cX11_heard 53 = .ok (.getfield 119, 3) := by decide +kernel
theorem dX11_heard_56 : decode cX11_heard 56 = .ok (.aload_n 0, 1) := by decide +kernel
theorem dX11_heard_57 : decode cX11_heard 57 = .ok (.getfield 87, 3) := by decide +kernel
theorem dX11_heard_60 : decode cX11_heard 60 = .ok (.invokevirtual 243, 3) := by decide +kernel
theorem dX11_heard_63 : decode cX11_heard 63 = .ok (.aload_n 0, 1) := by decide +kernel
theorem dX11_heard_64 : decode cX11_heard 64 = .ok (.getfield 35, 3) := by decide +kernel
theorem dX11_heard_67 : decode cX11_heard 67 = .ok (.getfield 119, 3) := by decide +kernel
theorem dX11_heard_70 : decode cX11_heard 70 = .ok (.getfield 126, 3) := by decide +kernel
theorem dX11_heard_73 : decode cX11_heard 73 = .ok (.ireturn, 1) := by decide +kernel
theorem dX11_keep_0 : decode cX11_keep 0 = .ok (.aload_n 0, 1) := by decide +kernel
theorem dX11_keep_1 : decode cX11_keep 1 = .ok (.getfield 43, 3) := by decide +kernel
theorem dX11_keep_4 : decode cX11_keep 4 = .ok (.bipush 8, 2) := by decide +kernel
theorem dX11_keep_6 : decode cX11_keep 6 = .ok (.if_icmp .lt 5, 3) := by decide +kernel
theorem dX11_keep_9 : decode cX11_keep 9 = .ok (.iconst (-1), 1) := by decide +kernel
theorem dX11_keep_10 : decode cX11_keep 10 = .ok (.ireturn, 1) := by decide +kernel
theorem dX11_keep_11 : decode cX11_keep 11 = .ok (.aload_n 0, 1) := by decide +kernel
theorem dX11_keep_12 : decode cX11_keep 12 = .ok (.getfield 39, 3) := by decide +kernel
theorem dX11_keep_15 : decode cX11_keep 15 = .ok (.aload_n 0, 1) := by decide +kernel
theorem dX11_keep_16 : decode cX11_keep 16 = .ok (.getfield 43, 3) := by decide +kernel
theorem dX11_keep_19 : decode cX11_keep 19 = .ok (.aaload, 1) := by decide +kernel
theorem dX11_keep_20 : decode cX11_keep 20 = .ok (.ifnonnull 19, 3) := by decide +kernel
theorem dX11_keep_23 : decode cX11_keep 23 = .ok (.aload_n 0, 1) := by decide +kernel
theorem dX11_keep_24 : decode cX11_keep 24 = .ok (.getfield 39, 3) := by decide +kernel
theorem dX11_keep_27 : decode cX11_keep 27 = .ok (.aload_n 0, 1) := by decide +kernel
theorem dX11_keep_28 : decode cX11_keep 28 = .ok (.getfield 43, 3) := by decide +kernel
theorem dX11_keep_31 : decode cX11_keep 31 = .ok (.new 32, 3) := by decide +kernel
theorem dX11_keep_34 : decode cX11_keep 34 = .ok (.dup, 1) := by decide +kernel
theorem dX11_keep_35 : decode cX11_keep 35 = .ok (.invokespecial 34, 3) := by decide +kernel
theorem dX11_keep_38 : decode cX11_keep 38 = .ok (.aastore, 1) := by decide +kernel
theorem dX11_keep_39 : decode cX11_keep 39 = .ok (.aload_n 0, 1) := by decide +kernel
theorem dX11_keep_40 : decode cX11_keep 40 = .ok (.getfield 39, 3) := by decide +kernel
theorem dX11_keep_43 : decode cX11_keep 43 = .ok (.aload_n 0, 1) := by decide +kernel
theorem dX11_keep_44 : decode cX11_keep 44 = .ok (.getfield 43, 3) := by decide +kernel
theorem dX11_keep_47 : decode cX11_keep 47 = .ok (.aaload, 1) := by decide +kernel
theorem dX11_keep_48 : decode cX11_keep 48 = .ok (.aload_n 0, 1) := by decide +kernel
theorem dX11_keep_49 : decode cX11_keep 49 = .ok (.getfield 35, 3) := by decide +kernel
theorem dX11_keep_52 : decode cX11_keep 52 = .ok (.invokevirtual 382, 3) := by decide +kernel
theorem dX11_keep_55 : decode cX11_keep 55 = .ok (.aload_n 0, 1) := by decide +kernel
theorem dX11_keep_56 : decode cX11_keep 56 = .ok (.dup, 1) := by decide +kernel
theorem dX11_keep_57 : decode cX11_keep 57 = .ok (.getfield 43, 3) := by decide +kernel
theorem dX11_keep_60 : decode cX11_keep 60 = .ok (.iconst 1, 1) := by decide +kernel
theorem dX11_keep_61 : decode cX11_keep 61 = .ok (.iadd, 1) := by decide +kernel
theorem dX11_keep_62 : decode cX11_keep 62 = .ok (.putfield 43, 3) := by decide +kernel
theorem dX11_keep_65 : decode cX11_keep 65 = .ok (.aload_n 0, 1) := by decide +kernel
theorem dX11_keep_66 : decode cX11_keep 66 = .ok (.getfield 43, 3) := by decide +kernel
theorem dX11_keep_69 : decode cX11_keep 69 = .ok (.ireturn, 1) := by decide +kernel
theorem dX11_undo_0 : decode cX11_undo 0 = .ok (.aload_n 0, 1) := by decide +kernel
theorem dX11_undo_1 : decode cX11_undo 1 = .ok (.getfield 43, 3) := by decide +kernel
theorem dX11_undo_4 : decode cX11_undo 4 = .ok (.ifCond .le 17, 3) := by decide +kernel
theorem dX11_undo_7 : decode cX11_undo 7 = .ok (.aload_n 0, 1) := by decide +kernel
theorem dX11_undo_8 : decode cX11_undo 8 = .ok (.getfield 39, 3) := by decide +kernel
theorem dX11_undo_11 : decode cX11_undo 11 = .ok (.aload_n 0, 1) := by decide +kernel
theorem dX11_undo_12 : decode cX11_undo 12 = .ok (.getfield 43, 3) := by decide +kernel
theorem dX11_undo_15 : decode cX11_undo 15 = .ok (.iconst 1, 1) := by decide +kernel
theorem dX11_undo_16 : decode cX11_undo 16 = .ok (.isub, 1) := by decide +kernel
theorem dX11_undo_17 : decode cX11_undo 17 = .ok (.aaload, 1) := by decide +kernel
theorem dX11_undo_18 : decode cX11_undo 18 = .ok (.ifnonnull 5, 3) := by decide +kernel
theorem dX11_undo_21 : decode cX11_undo 21 = .ok (.iconst (-1), 1) := by decide +kernel
theorem dX11_undo_22 : decode cX11_undo 22 = .ok (.ireturn, 1) := by decide +kernel
theorem dX11_undo_23 : decode cX11_undo 23 = .ok (.aload_n 0, 1) := by decide +kernel
theorem dX11_undo_24 : decode cX11_undo 24 = .ok (.dup, 1) := by decide +kernel
theorem dX11_undo_25 : decode cX11_undo 25 = .ok (.getfield 43, 3) := by decide +kernel
theorem dX11_undo_28 : decode cX11_undo 28 = .ok (.iconst 1, 1) := by decide +kernel
theorem dX11_undo_29 : decode cX11_undo 29 = .ok (.isub, 1) := by decide +kernel
theorem dX11_undo_30 : decode cX11_undo 30 = .ok (.putfield 43, 3) := by decide +kernel
theorem dX11_undo_33 : decode cX11_undo 33 = .ok (.aload_n 0, 1) := by decide +kernel
theorem dX11_undo_34 : decode cX11_undo 34 = .ok (.getfield 35, 3) := by decide +kernel
theorem dX11_undo_37 : decode cX11_undo 37 = .ok (.aload_n 0, 1) := by decide +kernel
theorem dX11_undo_38 : decode cX11_undo 38 = .ok (.getfield 39, 3) := by decide +kernel
theorem dX11_undo_41 : decode cX11_undo 41 = .ok (.aload_n 0, 1) := by decide +kernel
theorem dX11_undo_42 : decode cX11_undo 42 = .ok (.getfield 43, 3) := by decide +kernel
theorem dX11_undo_45 : decode cX11_undo 45 = .ok (.aaload, 1) := by decide +kernel
theorem dX11_undo_46 : decode cX11_undo 46 = .ok (.invokevirtual 382, 3) := by decide +kernel
theorem dX11_undo_49 : decode cX11_undo 49 = .ok (.aload_n 0, 1) := by decide +kernel
theorem dX11_undo_50 : decode cX11_undo 50 = .ok (.getfield 43, 3) := by decide +kernel
theorem dX11_undo_53 : decode cX11_undo 53 = .ok (.ireturn, 1) := by decide +kernel
theorem dX11_within_0 : decode cX11_within 0 = .ok (.iload_n 0, 1) := by decide +kernel
theorem dX11_within_1 : decode cX11_within 1 = .ok (.iload_n 1, 1) := by decide +kernel
theorem dX11_within_2 : decode cX11_within 2 = .ok (.if_icmp .lt 12, 3) := by decide +kernel
theorem dX11_within_5 : decode cX11_within 5 = .ok (.iload_n 0, 1) := by decide +kernel
theorem dX11_within_6 : decode cX11_within 6 = .ok (.iload_n 2, 1) := by decide +kernel
theorem dX11_within_7 : decode cX11_within 7 = .ok (.if_icmp .gt 7, 3) := by decide +kernel
theorem dX11_within_10 : decode cX11_within 10 = .ok (.iconst 1, 1) := by decide +kernel
theorem dX11_within_11 : decode cX11_within 11 = .ok (.goto 4, 3) := by decide +kernel
theorem dX11_within_14 : decode cX11_within 14 = .ok (.iconst 0, 1) := by decide +kernel
theorem dX11_within_15 : decode cX11_within 15 = .ok (.ireturn, 1) := by decide +kernel
theorem dX11_isPart_0 : decode cX11_isPart 0 = .ok (.iload_n 0, 1) := by decide +kernel
theorem dX11_isPart_1 : decode cX11_isPart 1 = .ok (.ifCond .eq 8, 3) := by decide +kernel
theorem dX11_isPart_4 : decode cX11_isPart 4 = .ok (.iload_n 0, 1) := by decide +kernel
theorem dX11_isPart_5 : decode cX11_isPart 5 = .ok (.iconst 1, 1) := by decide +kernel
theorem dX11_isPart_6 : decode cX11_isPart 6 = .ok (.if_icmp .ne 7, 3) := by decide +kernel
theorem dX11_isPart_9 : decode cX11_isPart 9 = .ok (.iconst 1, 1) := by decide +kernel
theorem dX11_isPart_10 : decode cX11_isPart 10 = .ok (.goto 4, 3) := by decide +kernel
theorem dX11_isPart_13 : decode cX11_isPart 13 = .ok (.iconst 0, 1) := by decide +kernel
theorem dX11_isPart_14 : decode cX11_isPart 14 = .ok (.ireturn, 1) := by decide +kernel
theorem dX11_isDrawer_0 : decode cX11_isDrawer 0 = .ok (.iload_n 0, 1) := by decide +kernel
theorem dX11_isDrawer_1 : decode cX11_isDrawer 1 = .ok (.iconst 0, 1) := by decide +kernel
theorem dX11_isDrawer_2 : decode cX11_isDrawer 2 = .ok (.iconst 3, 1) := by decide +kernel
theorem dX11_isDrawer_3 : decode cX11_isDrawer 3 = .ok (.invokestatic 133, 3) := by decide +kernel
theorem dX11_isDrawer_6 : decode cX11_isDrawer 6 = .ok (.ireturn, 1) := by decide +kernel
theorem dX11_isFilled_0 : decode cX11_isFilled 0 = .ok (.iload_n 1, 1) := by decide +kernel
theorem dX11_isFilled_1 : decode cX11_isFilled 1 = .ok (.invokestatic 252, 3) := by decide +kernel
theorem dX11_isFilled_4 : decode cX11_isFilled 4 = .ok (.ifCond .eq 22, 3) := by decide +kernel
theorem dX11_isFilled_7 : decode cX11_isFilled 7 = .ok (.aload_n 0, 1) := by decide +kernel
theorem dX11_isFilled_8 : decode cX11_isFilled 8 = .ok (.getfield 35, 3) := by decide +kernel
theorem dX11_isFilled_11 : decode cX11_isFilled 11 = .ok (.getfield 255, 3) := by decide +kernel
theorem dX11_isFilled_14 : decode cX11_isFilled 14 = .ok (.iload_n 1, 1) := by decide +kernel
theorem dX11_isFilled_15 : decode cX11_isFilled 15 = .ok (.aaload, 1) := by decide +kernel
theorem dX11_isFilled_16 : decode cX11_isFilled 16 = .ok (.getfield 263, 3) := by decide +kernel
theorem dX11_isFilled_19 : decode cX11_isFilled 19 = .ok (.ifCond .le 7, 3) := by decide +kernel
theorem dX11_isFilled_22 : decode cX11_isFilled 22 = .ok (.iconst 1, 1) := by decide +kernel
theorem dX11_isFilled_23 : decode cX11_isFilled 23 = .ok (.goto 4, 3) := by decide +kernel
theorem dX11_isFilled_26 : decode cX11_isFilled 26 = .ok (.iconst 0, 1) := by decide +kernel
theorem dX11_isFilled_27 : decode cX11_isFilled 27 = .ok (.ireturn, 1) := by decide +kernel
theorem dX11_isRow_0 : decode cX11_isRow 0 = .ok (.aload_n 0, 1) := by decide +kernel
theorem dX11_isRow_1 : decode cX11_isRow 1 = .ok (.iload_n 1, 1) := by decide +kernel
theorem dX11_isRow_2 : decode cX11_isRow 2 = .ok (.invokevirtual 285, 3) := by decide +kernel
theorem dX11_isRow_5 : decode cX11_isRow 5 = .ok (.ifCond .eq 29, 3) := by decide +kernel
theorem dX11_isRow_8 : decode cX11_isRow 8 = .ok (.iload_n 2, 1) := by decide +kernel
theorem dX11_isRow_9 : decode cX11_isRow 9 = .ok (.iconst 0, 1) := by decide +kernel
theorem dX11_isRow_10 : decode cX11_isRow 10 = .ok (.aload_n 0, 1) := by decide +kernel
theorem dX11_isRow_11 : decode cX11_isRow 11 = .ok (.getfield 35, 3) := by decide +kernel
theorem dX11_isRow_14 : decode cX11_isRow 14 = .ok (.getfield 255, 3) := by decide +kernel
theorem dX11_isRow_17 : decode cX11_isRow 17 = .ok (.iload_n 1, 1) := by decide +kernel
theorem dX11_isRow_18 : decode cX11_isRow 18 = .ok (.aaload, 1) := by decide +kernel
theorem dX11_isRow_19 : decode cX11_isRow 19 = .ok (.getfield 263, 3) := by decide +kernel
theorem dX11_isRow_22 : decode cX11_isRow 22 = .ok (.iconst 1, 1) := by decide +kernel
theorem dX11_isRow_23 : decode cX11_isRow 23 = .ok (.isub, 1) := by decide +kernel
theorem dX11_isRow_24 : decode cX11_isRow 24 = .ok (.invokestatic 133, 3) := by decide +kernel
theorem dX11_isRow_27 : decode cX11_isRow 27 = .ok (.ifCond .eq 7, 3) := by decide +kernel
theorem dX11_isRow_30 : decode cX11_isRow 30 = .ok (.iconst 1, 1) := by decide +kernel
theorem dX11_isRow_31 : decode cX11_isRow 31 = .ok (.goto 4, 3) := by decide +kernel
theorem dX11_isRow_34 : decode cX11_isRow 34 = .ok (.iconst 0, 1) := by decide +kernel
theorem dX11_isRow_35 : decode cX11_isRow 35 = .ok (.ireturn, 1) := by decide +kernel
theorem dX11_hasTones_0 : decode cX11_hasTones 0 = .ok (.aload_n 0, 1) := by decide +kernel
theorem dX11_hasTones_1 : decode cX11_hasTones 1 = .ok (.getfield 35, 3) := by decide +kernel
theorem dX11_hasTones_4 : decode cX11_hasTones 4 = .ok (.getfield 119, 3) := by decide +kernel
theorem dX11_hasTones_7 : decode cX11_hasTones 7 = .ok (.getfield 126, 3) := by decide +kernel
theorem dX11_hasTones_10 : decode cX11_hasTones 10 = .ok (.ifCond .le 7, 3) := by decide +kernel
theorem dX11_hasTones_13 : decode cX11_hasTones 13 = .ok (.iconst 1, 1) := by decide +kernel
theorem dX11_hasTones_14 : decode cX11_hasTones 14 = .ok (.goto 4, 3) := by decide +kernel
theorem dX11_hasTones_17 : decode cX11_hasTones 17 = .ok (.iconst 0, 1) := by decide +kernel
theorem dX11_hasTones_18 : decode cX11_hasTones 18 = .ok (.ireturn, 1) := by decide +kernel
theorem dX11_isTone_0 : decode cX11_isTone 0 = .ok (.iload_n 1, 1) := by decide +kernel
theorem dX11_isTone_1 : decode cX11_isTone 1 = .ok (.iconst 0, 1) := by decide +kernel
theorem dX11_isTone_2 : decode cX11_isTone 2 = .ok (.aload_n 0, 1) := by decide +kernel
theorem dX11_isTone_3 : decode cX11_isTone 3 = .ok (.getfield 35, 3) := by decide +kernel
theorem dX11_isTone_6 : decode cX11_isTone 6 = .ok (.getfield 119, 3) := by decide +kernel
theorem dX11_isTone_9 : decode cX11_isTone 9 = .ok (.getfield 126, 3) := by decide +kernel
theorem dX11_isTone_12 : decode cX11_isTone 12 = .ok (.iconst 1, 1) := by decide +kernel
theorem dX11_isTone_13 : decode cX11_isTone 13 = .ok (.isub, 1) := by decide +kernel
theorem dX11_isTone_14 : decode cX11_isTone 14 = .ok (.invokestatic 133, 3) := by decide +kernel
theorem dX11_isTone_17 : decode cX11_isTone 17 = .ok (.ireturn, 1) := by decide +kernel
theorem dX11_hasChain_0 : decode cX11_hasChain 0 = .ok (.aload_n 0, 1) := by decide +kernel
theorem dX11_hasChain_1 : decode cX11_hasChain 1 = .ok (.getfield 35, 3) := by decide +kernel
theorem dX11_hasChain_4 : decode cX11_hasChain 4 = .ok (.getfield 119, 3) := by decide +kernel
theorem dX11_hasChain_7 : decode cX11_hasChain 7 = .ok (.getfield 126, 3) := by decide +kernel
theorem dX11_hasChain_10 : decode cX11_hasChain 10 = .ok (.iconst 1, 1) := by decide +kernel
theorem dX11_hasChain_11 : decode cX11_hasChain 11 = .ok (.iconst 3, 1) := by decide +kernel
theorem dX11_hasChain_12 : decode cX11_hasChain 12 = .ok (.invokestatic 133, 3) := by decide +kernel
theorem dX11_hasChain_15 : decode cX11_hasChain 15 = .ok (.ifCond .eq 22, 3) := by decide +kernel
theorem dX11_hasChain_18 : decode cX11_hasChain 18 = .ok (.aload_n 0, 1) := by decide +kernel
theorem dX11_hasChain_19 : decode cX11_hasChain 19 = .ok (.getfield 35, 3) := by decide +kernel
theorem dX11_hasChain_22 : decode cX11_hasChain 22 = .ok (.getfield 119, 3) := by decide +kernel
theorem dX11_hasChain_25 : decode cX11_hasChain 25 = .ok (.getfield 137, 3) := by decide +kernel
theorem dX11_hasChain_28 : decode cX11_hasChain 28 = .ok (.iconst 0, 1) := by decide +kernel
theorem dX11_hasChain_29 : decode cX11_hasChain 29 = .ok (.iaload, 1) := by decide +kernel
theorem dX11_hasChain_30 : decode cX11_hasChain 30 = .ok (.ifCond .le 7, 3) := by decide +kernel
theorem dX11_hasChain_33 : decode cX11_hasChain 33 = .ok (.iconst 1, 1) := by decide +kernel
theorem dX11_hasChain_34 : decode cX11_hasChain 34 = .ok (.goto 4, 3) := by decide +kernel
theorem dX11_hasChain_37 : decode cX11_hasChain 37 = .ok (.iconst 0, 1) := by decide +kernel
theorem dX11_hasChain_38 : decode cX11_hasChain 38 = .ok (.ireturn, 1) := by decide +kernel
theorem dX11_takeSpareTones_0 : decode cX11_takeSpareTones 0 = .ok (.aload_n 0, 1) := by decide +kernel
theorem dX11_takeSpareTones_1 : decode cX11_takeSpareTones 1 = .ok (.getfield 87, 3) := by decide +kernel
theorem dX11_takeSpareTones_4 : decode cX11_takeSpareTones 4 = .ok (.invokevirtual 385, 3) := by decide +kernel
theorem dX11_takeSpareTones_7 : decode cX11_takeSpareTones 7 = .ok (.ifCond .ne 6, 3) := by decide +kernel
theorem dX11_takeSpareTones_10 : decode cX11_takeSpareTones 10 = .ok (.bipush (-3), 2) := by decide +kernel
theorem dX11_takeSpareTones_12 : decode cX11_takeSpareTones 12 = .ok (.ireturn, 1) := by decide +kernel
theorem dX11_takeSpareTones_13 : decode cX11_takeSpareTones 13 = .ok (.aload_n 0, 1) := by decide +kernel
theorem dX11_takeSpareTones_14 : decode cX11_takeSpareTones 14 = .ok (.getfield 35, 3) := by decide +kernel
theorem dX11_takeSpareTones_17 : decode cX11_takeSpareTones 17 = .ok (.getfield 119, 3) := by decide +kernel
theorem dX11_takeSpareTones_20 : decode cX11_takeSpareTones 20 = .ok (.aload_n 0, 1) := by decide +kernel
theorem dX11_takeSpareTones_21 : decode cX11_takeSpareTones 21 = .ok (.getfield 87, 3) := by decide +kernel
theorem dX11_takeSpareTones_24 : decode cX11_takeSpareTones 24 = .ok (.invokevirtual 243, 3) := by decide +kernel
theorem dX11_takeSpareTones_27 : decode cX11_takeSpareTones 27 = .ok (.aload_n 0, 1) := by decide +kernel
theorem dX11_takeSpareTones_28 : decode cX11_takeSpareTones 28 = .ok (.getfield 35, 3) := by decide +kernel
theorem dX11_takeSpareTones_31 : decode cX11_takeSpareTones 31 = .ok (.getfield 119, 3) := by decide +kernel
theorem dX11_takeSpareTones_34 : decode cX11_takeSpareTones 34 = .ok (.getfield 126, 3) := by decide +kernel
theorem dX11_takeSpareTones_37 : decode cX11_takeSpareTones 37 = .ok (.ireturn, 1) := by decide +kernel
theorem dX11_isRival_0 : decode cX11_isRival 0 = .ok (.iload 4, 2) := by decide +kernel
theorem dX11_isRival_2 : decode cX11_isRival 2 = .ok (.aload_n 1, 1) := by decide +kernel
theorem dX11_isRival_3 : decode cX11_isRival 3 = .ok (.iload_n 2, 1) := by decide +kernel
theorem dX11_isRival_4 : decode cX11_isRival 4 = .ok (.iload_n 3, 1) := by decide +kernel
theorem dX11_isRival_5 : decode cX11_isRival 5 = .ok (.invokevirtual 277, 3) := by decide +kernel
theorem dX11_isRival_8 : decode cX11_isRival 8 = .ok (.if_icmp .ne 5, 3) := by decide +kernel
theorem dX11_isRival_11 : decode cX11_isRival 11 = .ok (.iconst 0, 1) := by decide +kernel
theorem dX11_isRival_12 : decode cX11_isRival 12 = .ok (.ireturn, 1) := by decide +kernel
theorem dX11_isRival_13 : decode cX11_isRival 13 = .ok (.aload_n 0, 1) := by decide +kernel
theorem dX11_isRival_14 : decode cX11_isRival 14 = .ok (.getfield 80, 3) := by decide +kernel
theorem dX11_isRival_17 : decode cX11_isRival 17 = .ok (.aload_n 1, 1) := by decide +kernel
theorem dX11_isRival_18 : decode cX11_isRival 18 = .ok (.invokevirtual 337, 3) := by decide +kernel
theorem dX11_isRival_21 : decode cX11_isRival 21 = .ok (.aload_n 0, 1) := by decide +kernel
theorem dX11_isRival_22 : decode cX11_isRival 22 = .ok (.getfield 80, 3) := by decide +kernel
theorem dX11_isRival_25 : decode cX11_isRival 25 = .ok (.iload_n 2, 1) := by decide +kernel
theorem dX11_isRival_26 : decode cX11_isRival 26 = .ok (.iload_n 3, 1) := by decide +kernel
theorem dX11_isRival_27 : decode cX11_isRival 27 = .ok (.iload 4, 2) := by decide +kernel
theorem dX11_isRival_29 : decode cX11_isRival 29 = .ok (.invokevirtual 281, 3) := by decide +kernel
theorem dX11_isRival_32 : decode cX11_isRival 32 = .ok (.aload_n 0, 1) := by decide +kernel
theorem dX11_isRival_33 : decode cX11_isRival 33 = .ok (.getfield 80, 3) := by decide +kernel
theorem dX11_isRival_36 : decode cX11_isRival 36 = .ok (.iload 5, 2) := by decide +kernel
theorem dX11_isRival_38 : decode cX11_isRival 38 = .ok (.invokevirtual 354, 3) := by decide +kernel
theorem dX11_isRival_41 : decode cX11_isRival 41 = .ok (.ireturn, 1) := by decide +kernel
theorem dX11_beginAllTables_0 : decode cX11_beginAllTables 0 = .ok (.aload_n 0, 1) := by decide +kernel
theorem dX11_beginAllTables_1 : decode cX11_beginAllTables 1 = .ok (.getfield 50, 3) := by decide +kernel
theorem dX11_beginAllTables_4 : decode cX11_beginAllTables 4 = .ok (.aload_n 0, 1) := by decide +kernel
theorem dX11_beginAllTables_5 : decode cX11_beginAllTables 5 = .ok (.getfield 35, 3) := by decide +kernel
theorem dX11_beginAllTables_8 : decode cX11_beginAllTables 8 = .ok (.getfield 119, 3) := by decide +kernel
theorem dX11_beginAllTables_11 : decode cX11_beginAllTables 11 = .ok (.invokevirtual 153, 3) := by decide +kernel
theorem dX11_beginAllTables_14 : decode cX11_beginAllTables 14 = .ok (.aload_n 0, 1) := by decide +kernel
theorem dX11_beginAllTables_15 : decode cX11_beginAllTables 15 = .ok (.getfield 66, 3) := by decide +kernel
theorem dX11_beginAllTables_18 : decode cX11_beginAllTables 18 = .ok (.aload_n 0, 1) := by decide +kernel
theorem dX11_beginAllTables_19 : decode cX11_beginAllTables 19 = .ok (.getfield 50, 3) := by decide +kernel
theorem dX11_beginAllTables_22 : decode cX11_beginAllTables 22 = .ok (.invokevirtual 388, 3) := by decide +kernel
theorem dX11_beginAllTables_25 : decode cX11_beginAllTables 25 = .ok (.return_, 1) := by decide +kernel
theorem dX11_countTables_0 : decode cX11_countTables 0 = .ok (.aload_n 0, 1) := by decide +kernel
theorem dX11_countTables_1 : decode cX11_countTables 1 = .ok (.invokevirtual 147, 3) := by decide +kernel
theorem dX11_countTables_4 : decode cX11_countTables 4 = .ok (.ifCond .ne 5, 3) := by decide +kernel
theorem dX11_countTables_7 : decode cX11_countTables 7 = .ok (.iconst (-1), 1) := by decide +kernel
theorem dX11_countTables_8 : decode cX11_countTables 8 = .ok (.ireturn, 1) := by decide +kernel
theorem dX11_countTables_9 : decode cX11_countTables 9 = .ok (.aload_n 0, 1) := by decide +kernel
theorem dX11_countTables_10 : decode cX11_countTables 10 = .ok (.getfield 35, 3) := by decide +kernel
theorem dX11_countTables_13 : decode cX11_countTables 13 = .ok (.getfield 119, 3) := by decide +kernel
theorem dX11_countTables_16 : decode cX11_countTables 16 = .ok (.getfield 126, 3) := by decide +kernel
theorem dX11_countTables_19 : decode cX11_countTables 19 = .ok (.iconst 3, 1) := by decide +kernel
theorem dX11_countTables_20 : decode cX11_countTables 20 = .ok (.if_icmp .le 6, 3) := by decide +kernel
theorem dX11_countTables_23 : decode cX11_countTables 23 = .ok (.bipush (-2), 2) := by decide +kernel
theorem dX11_countTables_25 : decode cX11_countTables 25 = .ok (.ireturn, 1) := by decide +kernel
theorem dX11_countTables_26 : decode cX11_countTables 26 = .ok (.aload_n 0, 1) := by decide +kernel
theorem dX11_countTables_27 : decode cX11_countTables 27 = .ok (.invokevirtual 367, 3) := by decide +kernel
theorem dX11_countTables_30 : decode cX11_countTables 30 = .ok (.iconst 0, 1) := by decide +kernel
theorem dX11_countTables_31 : decode cX11_countTables 31 = .ok (.istore_n 3, 1) := by decide +kernel
theorem dX11_countTables_32 : decode cX11_countTables 32 = .ok (.iconst 0, 1) := by decide +kernel
theorem dX11_countTables_33 : decode cX11_countTables 33 = .ok (.istore 4, 2) := by decide +kernel
theorem dX11_countTables_35 : decode cX11_countTables 35 = .ok (.iload 4, 2) := by decide +kernel
theorem dX11_countTables_37 : decode cX11_countTables 37 = .ok (.aload_n 0, 1) := by decide +kernel
theorem dX11_countTables_38 : decode cX11_countTables 38 = .ok (.getfield 66, 3) := by decide +kernel
theorem dX11_countTables_41 : decode cX11_countTables 41 = .ok (.invokevirtual 370, 3) := by decide +kernel
theorem dX11_countTables_44 : decode cX11_countTables 44 = .ok (.if_icmp .ge 36, 3) := by decide +kernel
theorem dX11_countTables_47 : decode cX11_countTables 47 = .ok (.aload_n 0, 1) := by decide +kernel
theorem dX11_countTables_48 : decode cX11_countTables 48 = .ok (.getfield 66, 3) := by decide +kernel
theorem dX11_countTables_51 : decode cX11_countTables 51 = .ok (.iload 4, 2) := by decide +kernel
theorem dX11_countTables_53 : decode cX11_countTables 53 = .ok (.invokevirtual 373, 3) := by decide +kernel
theorem dX11_countTables_56 : decode cX11_countTables 56 = .ok (.ifCond .eq 18, 3) := by decide +kernel
theorem dX11_countTables_59 : decode cX11_countTables 59 = .ok (.aload_n 0, 1) := by decide +kernel
theorem dX11_countTables_60 : decode cX11_countTables 60 = .ok (.getfield 66, 3) := by decide +kernel
theorem dX11_countTables_63 : decode cX11_countTables 63 = .ok (.iload_n 1, 1) := by decide +kernel
theorem dX11_countTables_64 : decode cX11_countTables 64 = .ok (.iload_n 2, 1) := by decide +kernel
theorem dX11_countTables_65 : decode cX11_countTables 65 = .ok (.invokevirtual 390, 3) := by decide +kernel
theorem dX11_countTables_68 : decode cX11_countTables 68 = .ok (.ifCond .eq 6, 3) := by decide +kernel
theorem dX11_countTables_71 : decode cX11_countTables 71 = .ok (.iinc 3 1, 3) := by decide +kernel
theorem dX11_countTables_74 : decode cX11_countTables 74 = .ok (.iinc 4 1, 3) := by decide +kernel
theorem dX11_countTables_77 : decode cX11_countTables 77 = .ok (.goto (-42), 3) := by decide +kernel
theorem dX11_countTables_80 : decode cX11_countTables 80 = .ok (.iload_n 3, 1) := by decide +kernel
theorem dX11_countTables_81 : decode cX11_countTables 81 = .ok (.ireturn, 1) := by decide +kernel
theorem dX12_init_0 : decode cX12_init 0 = .ok (.aload_n 0, 1) := by decide +kernel
theorem dX12_init_1 : decode cX12_init 1 = .ok (.invokespecial 1, 3) := by decide +kernel
theorem dX12_init_4 : decode cX12_init 4 = .ok (.aload_n 0, 1) := by decide +kernel
theorem dX12_init_5 : decode cX12_init 5 = .ok (.bipush 120, 2) := by decide +kernel
theorem dX12_init_7 : decode cX12_init 7 = .ok (.newarray .byte, 2) := by decide +kernel
theorem dX12_init_9 : decode cX12_init 9 = .ok (.putfield 7, 3) := by decide +kernel
theorem dX12_init_12 : decode cX12_init 12 = .ok (.aload_n 0, 1) := by decide +kernel
theorem dX12_init_13 : decode cX12_init 13 = .ok (.iconst 5, 1) := by decide +kernel
theorem dX12_init_14 : decode cX12_init 14 = .ok (.newarray .int, 2) := by decide +kernel
theorem dX12_init_16 : decode cX12_init 16 = .ok (.putfield 13, 3) := by decide +kernel
theorem dX12_init_19 : decode cX12_init 19 = .ok (.aload_n 0, 1) := by decide +kernel
theorem dX12_init_20 : decode cX12_init 20 = .ok (.iconst 4, 1) := by decide +kernel
theorem dX12_init_21 : decode cX12_init 21 = .ok (.newarray .int, 2) := by decide +kernel
theorem dX12_init_23 : decode cX12_init 23 = .ok (.putfield 17, 3) := by decide +kernel
theorem dX12_init_26 : decode cX12_init 26 = .ok (.aload_n 0, 1) := by decide +kernel
theorem dX12_init_27 : decode cX12_init 27 = .ok (.iconst 4, 1) := by decide +kernel
theorem dX12_init_28 : decode cX12_init 28 = .ok (.newarray .int, 2) := by decide +kernel
theorem dX12_init_30 : decode cX12_init 30 = .ok (.putfield 20, 3) := by decide +kernel
theorem dX12_init_33 : decode cX12_init 33 = .ok (.aload_n 0, 1) := by decide +kernel
theorem dX12_init_34 : decode cX12_init 34 = .ok (.iconst 3, 1) := by decide +kernel
theorem dX12_init_35 : decode cX12_init 35 = .ok (.newarray .int, 2) := by decide +kernel
theorem dX12_init_37 : decode cX12_init 37 = .ok (.putfield 23, 3) := by decide +kernel
theorem dX12_init_40 : decode cX12_init 40 = .ok (.aload_n 0, 1) := by decide +kernel
theorem dX12_init_41 : decode cX12_init 41 = .ok (.iconst 5, 1) := by decide +kernel
theorem dX12_init_42 : decode cX12_init 42 = .ok (.newarray .long, 2) := by decide +kernel
theorem dX12_init_44 : decode cX12_init 44 = .ok (.putfield 26, 3) := by decide +kernel
theorem dX12_init_47 : decode cX12_init 47 = .ok (.aload_n 0, 1) := by decide +kernel
theorem dX12_init_48 : decode cX12_init 48 = .ok (.iconst 4, 1) := by decide +kernel
theorem dX12_init_49 : decode cX12_init 49 = .ok (.newarray .long, 2) := by decide +kernel
theorem dX12_init_51 : decode cX12_init 51 = .ok (.putfield 30, 3) := by decide +kernel
theorem dX12_init_54 : decode cX12_init 54 = .ok (.aload_n 0, 1) := by decide +kernel
theorem dX12_init_55 : decode cX12_init 55 = .ok (.bipush 8, 2) := by decide +kernel
theorem dX12_init_57 : decode cX12_init 57 = .ok (.newarray .long, 2) := by decide +kernel
theorem dX12_init_59 : decode cX12_init 59 = .ok (.putfield 33, 3) := by decide +kernel
theorem dX12_init_62 : decode cX12_init 62 = .ok (.aload_n 0, 1) := by decide +kernel
theorem dX12_init_63 : decode cX12_init 63 = .ok (.iconst 3, 1) := by decide +kernel
theorem dX12_init_64 : decode cX12_init 64 = .ok (.newarray .long, 2) := by decide +kernel
theorem dX12_init_66 : decode cX12_init 66 = .ok (.putfield 36, 3) := by decide +kernel
theorem dX12_init_69 : decode cX12_init 69 = .ok (.aload_n 0, 1) := by decide +kernel
theorem dX12_init_70 : decode cX12_init 70 = .ok (.iconst 3, 1) := by decide +kernel
theorem dX12_init_71 : decode cX12_init 71 = .ok (.newarray .long, 2) := by decide +kernel
theorem dX12_init_73 : decode cX12_init 73 = .ok (.putfield 39, 3) := by decide +kernel
theorem dX12_init_76 : decode cX12_init 76 = .ok (.aload_n 0, 1) := by decide +kernel
theorem dX12_init_77 : decode cX12_init 77 = .ok (.iconst 3, 1) := by decide +kernel
theorem dX12_init_78 : decode cX12_init 78 = .ok (.newarray .long, 2) := by decide +kernel
theorem dX12_init_80 : decode cX12_init 80 = .ok (.putfield 42, 3) := by decide +kernel
theorem dX12_init_83 : decode cX12_init 83 = .ok (.aload_n 0, 1) := by decide +kernel
theorem dX12_init_84 : decode cX12_init 84 = .ok (.iconst 3, 1) := by decide +kernel
theorem dX12_init_85 : decode cX12_init 85 = .ok (.newarray .long, 2) := by decide +kernel
theorem dX12_init_87 : decode cX12_init 87 = .ok (.putfield 45, 3) := by decide +kernel
theorem dX12_init_90 : decode cX12_init 90 = .ok (.aload_n 0, 1) := by decide +kernel
theorem dX12_init_91 : decode cX12_init 91 = .ok (.iconst 4, 1) := by decide +kernel
theorem dX12_init_92 : decode cX12_init 92 = .ok (.newarray .int, 2) := by decide +kernel
theorem dX12_init_94 : decode cX12_init 94 = .ok (.putfield 48, 3) := by decide +kernel
theorem dX12_init_97 : decode cX12_init 97 = .ok (.aload_n 0, 1) := by decide +kernel
theorem dX12_init_98 : decode cX12_init 98 = .ok (.bipush 20, 2) := by decide +kernel
theorem dX12_init_100 : decode cX12_init 100 = .ok (.newarray .int, 2) := by decide +kernel
theorem dX12_init_102 : decode cX12_init 102 = .ok (.putfield 51, 3) := by decide +kernel
theorem dX12_init_105 : decode cX12_init 105 = .ok (.aload_n 0, 1) := by decide +kernel
theorem dX12_init_106 : decode cX12_init 106 = .ok (.bipush 20, 2) := by decide +kernel
theorem dX12_init_108 : decode cX12_init 108 = .ok (.newarray .int, 2) := by decide +kernel
theorem dX12_init_110 : decode cX12_init 110 = .ok (.putfield 54, 3) := by decide +kernel
theorem dX12_init_113 : decode cX12_init 113 = .ok (.aload_n 0, 1) := by decide +kernel
theorem dX12_init_114 : decode cX12_init 114 = .ok (.bipush 32, 2) := by decide +kernel
theorem dX12_init_116 : decode cX12_init 116 = .ok (.newarray .int, 2) := by decide +kernel
theorem dX12_init_118 : decode cX12_init 118 = .ok (.putfield 57, 3) := by decide +kernel
theorem dX12_init_121 : decode cX12_init 121 = .ok (.aload_n 0, 1) := by decide +kernel
theorem dX12_init_122 : decode cX12_init 122 = .ok (.sipush 160, 3) := by decide +kernel
theorem dX12_init_125 : decode cX12_init 125 = .ok (.newarray .int, 2) := by decide +kernel
theorem dX12_init_127 : decode cX12_init 127 = .ok (.putfield 60, 3) := by decide +kernel
theorem dX12_init_130 : decode cX12_init 130 = .ok (.aload_n 0, 1) := by decide +kernel
theorem dX12_init_131 : decode cX12_init 131 = .ok (.sipush 160, 3) := by decide +kernel
theorem dX12_init_134 : decode cX12_init 134 = .ok (.newarray .int, 2) := by decide +kernel
theorem dX12_init_136 : decode cX12_init 136 = .ok (.putfield 63, 3) := by decide +kernel
theorem dX12_init_139 : decode cX12_init 139 = .ok (.aload_n 0, 1) := by decide +kernel
theorem dX12_init_140 : decode cX12_init 140 = .ok (.bipush 8, 2) := by decide +kernel
theorem dX12_init_142 : decode cX12_init 142 = .ok (.newarray .int, 2) := by decide +kernel
theorem dX12_init_144 : decode cX12_init 144 = .ok (.putfield 66, 3) := by decide +kernel
theorem dX12_init_147 : decode cX12_init 147 = .ok (.aload_n 0, 1) := by decide +kernel
theorem dX12_init_148 : decode cX12_init 148 = .ok (.bipush 32, 2) := by decide +kernel
theorem dX12_init_150 : decode cX12_init 150 = .ok (.newarray .int, 2) := by decide +kernel
theorem dX12_init_152 : decode cX12_init 152 = .ok (.putfield 69, 3) := by decide +kernel
theorem dX12_init_155 : decode cX12_init 155 = .ok (.aload_n 0, 1) := by decide +kernel
theorem dX12_init_156 : decode cX12_init 156 = .ok (.bipush 24, 2) := by decide +kernel
theorem dX12_init_158 : decode cX12_init 158 = .ok (.newarray .int, 2) := by decide +kernel
theorem dX12_init_160 : decode cX12_init 160 = .ok (.putfield 72, 3) := by decide +kernel
theorem dX12_init_163 : decode cX12_init 163 = .ok (.aload_n 0, 1) := by decide +kernel
theorem dX12_init_164 : decode cX12_init 164 = .ok (.bipush 36, 2) := by decide +kernel
theorem dX12_init_166 : decode cX12_init 166 = .ok (.newarray .long, 2) := by decide +kernel
theorem dX12_init_168 : decode cX12_init 168 = .ok (.putfield 75, 3) := by decide +kernel
theorem dX12_init_171 : decode cX12_init 171 = .ok (.aload_n 0, 1) := by decide +kernel
theorem dX12_init_172 : decode cX12_init 172 = .ok (.bipush 6, 2) := by decide +kernel
theorem dX12_init_174 : decode cX12_init 174 = .ok (.newarray .long, 2) := by decide +kernel
theorem dX12_init_176 : decode cX12_init 176 = .ok (.putfield 78, 3) := by decide +kernel
theorem dX12_init_179 : decode cX12_init 179 = .ok (.aload_n 0, 1) := by decide +kernel
theorem dX12_init_180 : decode cX12_init 180 = .ok (.iconst 5, 1) := by decide +kernel
theorem dX12_init_181 : decode cX12_init 181 = .ok (.newarray .long, 2) := by decide +kernel
theorem dX12_init_183 : decode cX12_init 183 = .ok (.putfield 81, 3) := by decide +kernel
theorem dX12_init_186 : decode cX12_init 186 = .ok (.aload_n 0, 1) := by decide +kernel
theorem dX12_init_187 : decode cX12_init 187 = .ok (.iconst 5, 1) := by decide +kernel
theorem dX12_init_188 : decode cX12_init 188 = .ok (.newarray .long, 2) := by decide +kernel
theorem dX12_init_190 : decode cX12_init 190 = .ok (.putfield 84, 3) := by decide +kernel
theorem dX12_init_193 : decode cX12_init 193 = .ok (.aload_n 0, 1) := by decide +kernel
theorem dX12_init_194 : decode cX12_init 194 = .ok (.iconst 5, 1) := by decide +kernel
theorem dX12_init_195 : decode cX12_init 195 = .ok (.newarray .long, 2) := by decide +kernel
theorem dX12_init_197 : decode cX12_init 197 = .ok (.putfield 87, 3) := by decide +kernel
theorem dX12_init_200 : decode cX12_init 200 = .ok (.aload_n 0, 1) := by decide +kernel
theorem dX12_init_201 : decode cX12_init 201 = .ok (.iconst 5, 1) := by decide +kernel
theorem dX12_init_202 : decode cX12_init 202 = .ok (.newarray .long, 2) := by decide +kernel
theorem dX12_init_204 : decode cX12_init 204 = .ok (.putfield 90, 3) := by decide +kernel
theorem dX12_init_207 : decode cX12_init 207 = .ok (.return_, 1) := by decide +kernel
theorem dX12_in_0 : decode cX12_in 0 = .ok (.iload_n 0, 1) := by decide +kernel
theorem dX12_in_1 : decode cX12_in 1 = .ok (.iload_n 1, 1) := by decide +kernel
theorem dX12_in_2 : decode cX12_in 2 = .ok (.if_icmp .lt 12, 3) := by decide +kernel
theorem dX12_in_5 : decode cX12_in 5 = .ok (.iload_n 0, 1) := by decide +kernel
theorem dX12_in_6 : decode cX12_in 6 = .ok (.iload_n 2, 1) := by decide +kernel
theorem dX12_in_7 : decode cX12_in 7 = .ok (.if_icmp .gt 7, 3) := by decide +kernel
theorem dX12_in_10 : decode cX12_in 10 = .ok (.iconst 1, 1) := by decide +kernel
theorem dX12_in_11 : decode cX12_in 11 = .ok (.goto 4, 3) := by decide +kernel
theorem dX12_in_14 : decode cX12_in 14 = .ok (.iconst 0, 1) := by decide +kernel
theorem dX12_in_15 : decode cX12_in 15 = .ok (.ireturn, 1) := by decide +kernel
theorem dX12_common_0 : decode cX12_common 0 = .ok (.lload_n 0, 1) := by decide +kernel
theorem dX12_common_1 : decode cX12_common 1 = .ok (.lconst 0, 1) := by decide +kernel
theorem dX12_common_2 : decode cX12_common 2 = .ok (.lcmp, 1) := by decide +kernel
theorem dX12_common_3 : decode cX12_common 3 = .ok (.ifCond .ge 8, 3) := by decide +kernel
theorem dX12_common_6 : decode cX12_common 6 = .ok (.lload_n 0, 1) := by decide +kernel
theorem dX12_common_7 : decode cX12_common 7 = .ok (.lneg, 1) := by decide +kernel
theorem dX12_common_8 : decode cX12_common 8 = .ok (.goto 4, 3) := by decide +kernel
theorem dX12_common_11 : decode cX12_common 11 = .ok (.lload_n 0, 1) := by decide +kernel
theorem dX12_common_12 : decode cX12_common 12 = .ok (.lstore 4, 2) := by decide +kernel
theorem dX12_common_14 : decode cX12_common 14 = .ok (.lload_n 2, 1) := by decide +kernel
theorem dX12_common_15 : decode cX12_common 15 = .ok (.lconst 0, 1) := by decide +kernel
theorem dX12_common_16 : decode cX12_common 16 = .ok (.lcmp, 1) := by decide +kernel
theorem dX12_common_17 : decode cX12_common 17 = .ok (.ifCond .ge 8, 3) := by decide +kernel
theorem dX12_common_20 : decode cX12_common 20 = .ok (.lload_n 2, 1) := by decide +kernel
theorem dX12_common_21 : decode cX12_common 21 = .ok (.lneg, 1) := by decide +kernel
theorem dX12_common_22 : decode cX12_common 22 = .ok (.goto 4, 3) := by decide +kernel
theorem dX12_common_25 : decode cX12_common 25 = .ok (.lload_n 2, 1) := by decide +kernel
theorem dX12_common_26 : decode cX12_common 26 = .ok (.lstore 6, 2) := by decide +kernel
theorem dX12_common_28 : decode cX12_common 28 = .ok (.lload 6, 2) := by decide +kernel
theorem dX12_common_30 : decode cX12_common 30 = .ok (.lconst 0, 1) := by decide +kernel
theorem dX12_common_31 : decode cX12_common 31 = .ok (.lcmp, 1) := by decide +kernel
theorem dX12_common_32 : decode cX12_common 32 = .ok (.ifCond .eq 21, 3) := by decide +kernel
theorem dX12_common_35 : decode cX12_common 35 = .ok (.lload 4, 2) := by decide +kernel
theorem dX12_common_37 : decode cX12_common 37 = .ok (.lload 6, 2) := by decide +kernel
theorem dX12_common_39 : decode cX12_common 39 = .ok (.lrem, 1) := by decide +kernel
theorem dX12_common_40 : decode cX12_common 40 = .ok (.lstore 8, 2) := by decide +kernel
theorem dX12_common_42 : decode cX12_common 42 = .ok (.lload 6, 2) := by decide +kernel
theorem dX12_common_44 : decode cX12_common 44 = .ok (.lstore 4, 2) := by decide +kernel
theorem dX12_common_46 : decode cX12_common 46 = .ok (.lload 8, 2) := by decide +kernel
theorem dX12_common_48 : decode cX12_common 48 = .ok (.lstore 6, 2) := by decide +kernel
theorem dX12_common_50 : decode cX12_common 50 = .ok (.goto (-22), 3) := by decide +kernel
theorem dX12_common_53 : decode cX12_common 53 = .ok (.lload 4, 2) := by decide +kernel
theorem dX12_common_55 : decode cX12_common 55 = .ok (.lreturn, 1) := by decide +kernel
theorem dX12_typed4_0 : decode cX12_typed4 0 = .ok (.iconst 3, 1) := by decide +kernel
theorem dX12_typed4_1 : decode cX12_typed4 1 = .ok (.istore_n 2, 1) := by decide +kernel
theorem dX12_typed4_2 : decode cX12_typed4 2 = .ok (.iload_n 2, 1) := by decide +kernel
theorem dX12_typed4_3 : decode cX12_typed4 3 = .ok (.ifCond .lt 35, 3) := by decide +kernel
theorem dX12_typed4_6 : decode cX12_typed4 6 = .ok (.aload_n 0, 1) := by decide +kernel
theorem dX12_typed4_7 : decode cX12_typed4 7 = .ok (.getfield 7, 3) := by decide +kernel
theorem dX12_typed4_10 : decode cX12_typed4 10 = .ok (.aload_n 0, 1) := by decide +kernel
theorem dX12_typed4_11 : decode cX12_typed4 11 = .ok (.getfield 93, 3) := by decide +kernel
theorem dX12_typed4_14 : decode cX12_typed4 14 = .ok (.iload_n 1, 1) := by decide +kernel
theorem dX12_typed4_15 : decode cX12_typed4 15 = .ok (.bipush 8, 2) := by decide +kernel
theorem dX12_typed4_17 : decode cX12_typed4 17 = .ok (.iload_n 2, 1) := by decide +kernel
theorem dX12_typed4_18 : decode cX12_typed4 18 = .ok (.imul, 1) := by decide +kernel
theorem dX12_typed4_19 : decode cX12_typed4 19 = .ok (.ishr, 1) := by decide +kernel
theorem dX12_typed4_20 : decode cX12_typed4 20 = .ok (.i2b, 1) := by decide +kernel
theorem dX12_typed4_21 : decode cX12_typed4 21 = .ok (.bastore, 1) := by decide +kernel
theorem dX12_typed4_22 : decode cX12_typed4 22 = .ok (.aload_n 0, 1) := by decide +kernel
theorem dX12_typed4_23 : decode cX12_typed4 23 = .ok (.aload_n 0, 1) := by decide +kernel
theorem dX12_typed4_24 : decode cX12_typed4 24 = .ok (.getfield 93, 3) := by decide +kernel
theorem dX12_typed4_27 : decode cX12_typed4 27 = .ok (.iconst 1, 1) := by decide +kernel
theorem dX12_typed4_28 : decode cX12_typed4 28 = .ok (.iadd, 1) := by decide +kernel
theorem dX12_typed4_29 : decode cX12_typed4 29 = .ok (.putfield 93, 3) := by decide +kernel
theorem dX12_typed4_32 : decode cX12_typed4 32 = .ok (.iinc 2 (-1), 3) := by decide +kernel
theorem dX12_typed4_35 : decode cX12_typed4 35 = .ok (.goto (-33), 3) := by decide +kernel
theorem dX12_typed4_38 : decode cX12_typed4 38 = .ok (.return_, 1) := by decide +kernel
theorem dX12_feed_0 : decode cX12_feed 0 = .ok (.aload_n 0, 1) := by decide +kernel
theorem dX12_feed_1 : decode cX12_feed 1 = .ok (.getfield 93, 3) := by decide +kernel
theorem dX12_feed_4 : decode cX12_feed 4 = .ok (.bipush 20, 2) := by decide +kernel
theorem dX12_feed_6 : decode cX12_feed 6 = .ok (.iadd, 1) := by decide +kernel
theorem dX12_feed_7 : decode cX12_feed 7 = .ok (.bipush 120, 2) := by decide +kernel
theorem dX12_feed_9 : decode cX12_feed 9 = .ok (.if_icmp .le 5, 3) := by decide +kernel
theorem dX12_feed_12 : decode cX12_feed 12 = .ok (.iconst (-1), 1) := by decide +kernel
theorem dX12_feed_13 : decode cX12_feed 13 = .ok (.ireturn, 1) := by decide +kernel
theorem dX12_feed_14 : decode cX12_feed 14 = .ok (.aload_n 0, 1) := by decide +kernel
theorem dX12_feed_15 : decode cX12_feed 15 = .ok (.iload_n 1, 1) := by decide +kernel
theorem dX12_feed_16 : decode cX12_feed 16 = .ok (.invokevirtual 97, 3) := by decide +kernel
theorem dX12_feed_19 : decode cX12_feed 19 = .ok (.aload_n 0, 1) := by decide +kernel
theorem dX12_feed_20 : decode cX12_feed 20 = .ok (.iload_n 2, 1) := by decide +kernel
theorem dX12_feed_21 : decode cX12_feed 21 = .ok (.invokevirtual 97, 3) := by decide +kernel
theorem dX12_feed_24 : decode cX12_feed 24 = .ok (.aload_n 0, 1) := by decide +kernel
theorem dX12_feed_25 : decode cX12_feed 25 = .ok (.iload_n 3, 1) := by decide +kernel
theorem dX12_feed_26 : decode cX12_feed 26 = .ok (.invokevirtual 97, 3) := by decide +kernel
theorem dX12_feed_29 : decode cX12_feed 29 = .ok (.aload_n 0, 1) := by decide +kernel
theorem dX12_feed_30 : decode cX12_feed 30 = .ok (.iload 4, 2) := by decide +kernel
theorem dX12_feed_32 : decode cX12_feed 32 = .ok (.invokevirtual 97, 3) := by decide +kernel
theorem dX12_feed_35 : decode cX12_feed 35 = .ok (.aload_n 0, 1) := by decide +kernel
theorem dX12_feed_36 : decode cX12_feed 36 = .ok (.iload 5, 2) := by decide +kernel
theorem dX12_feed_38 : decode cX12_feed 38 = .ok (.invokevirtual 97, 3) := by decide +kernel
theorem dX12_feed_41 : decode cX12_feed 41 = .ok (.aload_n 0, 1) := by decide +kernel
theorem dX12_feed_42 : decode cX12_feed 42 = .ok (.getfield 93, 3) := by decide +kernel
theorem dX12_feed_45 : decode cX12_feed 45 = .ok (.ireturn, 1) := by decide +kernel
theorem dX12_byteAt_0 : decode cX12_byteAt 0 = .ok (.iload_n 1, 1) := by decide +kernel
theorem dX12_byteAt_1 : decode cX12_byteAt 1 = .ok (.aload_n 0, 1) := by decide +kernel
theorem dX12_byteAt_2 : decode cX12_byteAt 2 = .ok (.getfield 101, 3) := by decide +kernel
theorem dX12_byteAt_5 : decode cX12_byteAt 5 = .ok (.if_icmp .ge 16, 3) := by decide +kernel
theorem dX12_byteAt_8 : decode cX12_byteAt 8 = .ok (.aload_n 0, 1) := by decide +kernel
theorem dX12_byteAt_9 : decode cX12_byteAt 9 = .ok (.getfield 7, 3) := by decide +kernel
theorem dX12_byteAt_12 : decode cX12_byteAt 12 = .ok (.iload_n 1, 1) := by decide +kernel
theorem dX12_byteAt_13 : decode cX12_byteAt 13 = .ok (.baload, 1) := by decide +kernel
theorem dX12_byteAt_14 : decode cX12_byteAt 14 = .ok (.sipush 255, 3) := by decide +kernel
theorem dX12_byteAt_17 : decode cX12_byteAt 17 = .ok (.iand, 1) := by decide +kernel
theorem dX12_byteAt_18 : decode cX12_byteAt 18 = .ok (.goto 4, 3) := by decide +kernel
theorem dX12_byteAt_21 : decode cX12_byteAt 21 = .ok (.iconst (-1), 1) := by decide +kernel
theorem dX12_byteAt_22 : decode cX12_byteAt 22 = .ok (.ireturn, 1) := by decide +kernel
theorem dX12_isDigit_0 : decode cX12_isDigit 0 = .ok (.iload_n 0, 1) := by decide +kernel
theorem dX12_isDigit_1 : decode cX12_isDigit 1 = .ok (.bipush 48, 2) := by decide +kernel
theorem dX12_isDigit_3 : decode cX12_isDigit 3 = .ok (.if_icmp .lt 13, 3) := by decide +kernel
theorem dX12_isDigit_6 : decode cX12_isDigit 6 = .ok (.iload_n 0, 1) := by decide +kernel
theorem dX12_isDigit_7 : decode cX12_isDigit 7 = .ok (.bipush 57, 2) := by decide +kernel
theorem dX12_isDigit_9 : decode cX12_isDigit 9 = .ok (.if_icmp .gt 7, 3) := by decide +kernel
theorem dX12_isDigit_12 : decode cX12_isDigit 12 = .ok (.iconst 1, 1) := by decide +kernel
theorem dX12_isDigit_13 : decode cX12_isDigit 13 = .ok (.goto 4, 3) := by decide +kernel
theorem dX12_isDigit_16 : decode cX12_isDigit 16 = .ok (.iconst 0, 1) := by decide +kernel
theorem dX12_isDigit_17 : decode cX12_isDigit 17 = .ok (.ireturn, 1) := by decide +kernel
theorem dX12_token_0 : decode cX12_token 0 = .ok (.aload_n 0, 1) := by decide +kernel
theorem dX12_token_1 : decode cX12_token 1 = .ok (.aload_n 0, 1) := by decide +kernel
theorem dX12_token_2 : decode cX12_token 2 = .ok (.getfield 104, 3) := by decide +kernel
theorem dX12_token_5 : decode cX12_token 5 = .ok (.invokevirtual 107, 3) := by decide +kernel
theorem dX12_token_8 : decode cX12_token 8 = .ok (.bipush 32, 2) := by decide +kernel
theorem dX12_token_10 : decode cX12_token 10 = .ok (.if_icmp .ne 16, 3) := by decide +kernel
theorem dX12_token_13 : decode cX12_token 13 = .ok (.aload_n 0, 1) := by decide +kernel
theorem dX12_token_14 : decode cX12_token 14 = .ok (.aload_n 0, 1) := by decide +kernel
theorem dX12_token_15 : decode cX12_token 15 = .ok (.getfield 104, 3) := by decide +kernel
theorem dX12_token_18 : decode cX12_token 18 = .ok (.iconst 1, 1) := by decide +kernel
theorem dX12_token_19 : decode cX12_token 19 = .ok (.iadd, 1) := by decide +kernel
theorem dX12_token_20 : decode cX12_token 20 = .ok (.putfield 104, 3) := by decide +kernel
theorem dX12_token_23 : decode cX12_token 23 = .ok (.goto (-23), 3) := by decide +kernel
theorem dX12_token_26 : decode cX12_token 26 = .ok (.aload_n 0, 1) := by decide +kernel
theorem dX12_token_27 : decode cX12_token 27 = .ok (.aload_n 0, 1) := by decide +kernel
theorem dX12_token_28 : decode cX12_token 28 = .ok (.getfield 104, 3) := by decide +kernel
theorem dX12_token_31 : decode cX12_token 31 = .ok (.putfield 111, 3) := by decide +kernel
theorem dX12_token_34 : decode cX12_token 34 = .ok (.aload_n 0, 1) := by decide +kernel
theorem dX12_token_35 : decode cX12_token 35 = .ok (.aload_n 0, 1) := by decide +kernel
theorem dX12_token_36 : decode cX12_token 36 = .ok (.getfield 104, 3) := by decide +kernel
theorem dX12_token_39 : decode cX12_token 39 = .ok (.invokevirtual 107, 3) := by decide +kernel
theorem dX12_token_42 : decode cX12_token 42 = .ok (.istore_n 1, 1) := by decide +kernel
theorem dX12_token_43 : decode cX12_token 43 = .ok (.iload_n 1, 1) := by decide +kernel
theorem dX12_token_44 : decode cX12_token 44 = .ok (.iconst (-1), 1) := by decide +kernel
theorem dX12_token_45 : decode cX12_token 45 = .ok (.if_icmp .ne 5, 3) := by decide +kernel
theorem dX12_token_48 : decode cX12_token 48 = .ok (.iconst 0, 1) := by decide +kernel
theorem dX12_token_49 : decode cX12_token 49 = .ok (.ireturn, 1) := by decide +kernel
theorem dX12_token_50 : decode cX12_token 50 = .ok (.aload_n 0, 1) := by decide +kernel
theorem dX12_token_51 : decode cX12_token 51 = .ok (.aload_n 0, 1) := by decide +kernel
theorem dX12_token_52 : decode cX12_token 52 = .ok (.getfield 104, 3) := by decide +kernel
theorem dX12_token_55 : decode cX12_token 55 = .ok (.iconst 1, 1) := by decide +kernel
theorem dX12_token_56 : decode cX12_token 56 = .ok (.iadd, 1) := by decide +kernel
theorem dX12_token_57 : decode cX12_token 57 = .ok (.putfield 104, 3) := by decide +kernel
theorem dX12_token_60 : decode cX12_token 60 = .ok (.iload_n 1, 1) := by decide +kernel
theorem dX12_token_61 : decode cX12_token 61 = .ok (.bipush 47, 2) := by decide +kernel
theorem dX12_token_63 : decode cX12_token 63 = .ok (.if_icmp .ne 5, 3) := by decide +kernel
theorem dX12_token_66 : decode cX12_token 66 = .ok (.iconst 2, 1) := by decide +kernel
theorem dX12_token_67 : decode cX12_token 67 = .ok (.ireturn, 1) := by decide +kernel
theorem dX12_token_68 : decode cX12_token 68 = .ok (.iload_n 1, 1) := by decide +kernel
theorem dX12_token_69 : decode cX12_token 69 = .ok (.bipush 45, 2) := by decide +kernel
theorem dX12_token_71 : decode cX12_token 71 = .ok (.if_icmp .ne 21, 3) := by decide +kernel
theorem dX12_token_74 : decode cX12_token 74 = .ok (.aload_n 0, 1) := by decide +kernel
theorem dX12_token_75 : decode cX12_token 75 = .ok (.aload_n 0, 1) := by decide +kernel
theorem dX12_token_76 : decode cX12_token 76 = .ok (.getfield 104, 3) := by decide +kernel
theorem dX12_token_79 : decode cX12_token 79 = .ok (.invokevirtual 107, 3) := by decide +kernel
theorem dX12_token_82 : decode cX12_token 82 = .ok (.invokestatic 114, 3) := by decide +kernel
theorem dX12_token_85 : decode cX12_token 85 = .ok (.ifCond .eq 7, 3) := by decide +kernel
theorem dX12_token_88 : decode cX12_token 88 = .ok (.iconst 1, 1) := by decide +kernel
theorem dX12_token_89 : decode cX12_token 89 = .ok (.goto 4, 3) := by decide +kernel
theorem dX12_token_92 : decode cX12_token 92 = .ok (.iconst 0, 1) := by decide +kernel
theorem dX12_token_93 : decode cX12_token 93 = .ok (.istore_n 2, 1) := by decide +kernel
theorem dX12_token_94 : decode cX12_token 94 = .ok (.iload_n 1, 1) := by decide +kernel
theorem dX12_token_95 : decode cX12_token 95 = .ok (.invokestatic 114, 3) := by decide +kernel
theorem dX12_token_98 : decode cX12_token 98 = .ok (.ifCond .ne 9, 3) := by decide +kernel
theorem dX12_token_101 : decode cX12_token 101 = .ok (.iload_n 2, 1) := by decide +kernel
theorem dX12_token_102 : decode cX12_token 102 = .ok (.ifCond .ne 5, 3) := by decide +kernel
theorem dX12_token_105 : decode cX12_token 105 = .ok (.iconst 3, 1) := by decide +kernel
theorem dX12_token_106 : decode cX12_token 106 = .ok (.ireturn, 1) := by decide +kernel
theorem dX12_token_107 : decode cX12_token 107 = .ok (.iload_n 2, 1) := by decide +kernel
theorem dX12_token_108 : decode cX12_token 108 = .ok (.ifCond .eq 28, 3) := by decide +kernel
theorem dX12_token_111 : decode cX12_token 111 = .ok (.aload_n 0, 1) := by decide +kernel
theorem dX12_token_112 : decode cX12_token 112 = .ok (.getfield 111, 3) := by decide +kernel
theorem dX12_token_115 : decode cX12_token 115 = .ok (.ifCond .le 21, 3) := by decide +kernel
theorem dX12_token_118 : decode cX12_token 118 = .ok (.aload_n 0, 1) := by decide +kernel
theorem dX12_token_119 : decode cX12_token 119 = .ok (.aload_n 0, 1) := by decide +kernel
theorem dX12_token_120 : decode cX12_token 120 = .ok (.getfield 111, 3) := by decide +kernel
theorem dX12_token_123 : decode cX12_token 123 = .ok (.iconst 1, 1) := by decide +kernel
theorem dX12_token_124 : decode cX12_token 124 = .ok (.isub, 1) := by decide +kernel
theorem dX12_token_125 : decode cX12_token 125 = .ok (.invokevirtual 107, 3) := by decide +kernel
theorem dX12_token_128 : decode cX12_token 128 = .ok (.invokestatic 114, 3) := by decide +kernel
theorem dX12_token_131 : decode cX12_token 131 = .ok (.ifCond .eq 5, 3) := by decide +kernel
theorem dX12_token_134 : decode cX12_token 134 = .ok (.iconst 3, 1) := by decide +kernel
theorem dX12_token_135 : decode cX12_token 135 = .ok (.ireturn, 1) := by decide +kernel
theorem dX12_token_136 : decode cX12_token 136 = .ok (.aload_n 0, 1) := by decide +kernel
theorem dX12_token_137 : decode cX12_token 137 = .ok (.iload_n 2, 1) := by decide +kernel
theorem dX12_token_138 : decode cX12_token 138 = .ok (.ifCond .eq 7, 3) := by decide +kernel
theorem dX12_token_141 : decode cX12_token 141 = .ok (.iconst 0, 1) := by decide +kernel
theorem dX12_token_142 : decode cX12_token 142 = .ok (.goto 7, 3) := by decide +kernel
theorem dX12_token_145 : decode cX12_token 145 = .ok (.iload_n 1, 1) := by decide +kernel
theorem dX12_token_146 : decode cX12_token 146 = .ok (.bipush 48, 2) := by decide +kernel
theorem dX12_token_148 : decode cX12_token 148 = .ok (.isub, 1) := by decide +kernel
theorem dX12_token_149 : decode cX12_token 149 = .ok (.putfield 118, 3) := by decide +kernel
theorem dX12_token_152 : decode cX12_token 152 = .ok (.aload_n 0, 1) := by decide +kernel
theorem dX12_token_153 : decode cX12_token 153 = .ok (.aload_n 0, 1) := by decide +kernel
theorem dX12_token_154 : decode cX12_token 154 = .ok (.getfield 104, 3) := by decide +kernel
theorem dX12_token_157 : decode cX12_token 157 = .ok (.invokevirtual 107, 3) := by decide +kernel
theorem dX12_token_160 : decode cX12_token 160 = .ok (.invokestatic 114, 3) := by decide +kernel
theorem dX12_token_163 : decode cX12_token 163 = .ok (.ifCond .eq 55, 3) := by decide +kernel
theorem dX12_token_166 : decode cX12_token 166 = .ok (.aload_n 0, 1) := by decide +kernel
theorem dX12_token_167 : decode cX12_token 167 = .ok (.aload_n 0, 1) := by decide +kernel
theorem dX12_token_168 : decode cX12_token 168 = .ok (.getfield 118, 3) := by decide +kernel
theorem dX12_token_171 : decode cX12_token 171 = .ok (.bipush 99, 2) := by decide +kernel
theorem dX12_token_173 : decode cX12_token 173 = .ok (.if_icmp .le 10, 3) := by decide +kernel
theorem dX12_token_176 : decode cX12_token 176 = .ok (.aload_n 0, 1) := by decide +kernel
theorem dX12_token_177 : decode cX12_token 177 = .ok (.getfield 118, 3) := by decide +kernel
theorem dX12_token_180 : decode cX12_token 180 = .ok (.goto 22, 3) := by decide +kernel
theorem dX12_token_183 : decode cX12_token 183 = .ok (.bipush 10, 2) := by decide +kernel
theorem dX12_token_185 : decode cX12_token 185 = .ok (.aload_n 0, 1) := by decide +kernel
theorem dX12_token_186 : decode cX12_token 186 = .ok (.getfield 118, 3) := by decide +kernel
theorem dX12_token_189 : decode cX12_token 189 = .ok (.imul, 1) := by decide +kernel
theorem dX12_token_190 : decode cX12_token 190 = .ok (.aload_n 0, 1) := by decide +kernel
theorem dX12_token_191 : decode cX12_token 191 = .ok (.aload_n 0, 1) := by decide +kernel
theorem dX12_token_192 : decode cX12_token 192 = .ok (.getfield 104, 3) := by decide +kernel
theorem dX12_token_195 : decode cX12_token 195 = .ok (.invokevirtual 107, 3) := by decide +kernel
theorem dX12_token_198 : decode cX12_token 198 = .ok (.iadd, 1) := by decide +kernel
theorem dX12_token_199 : decode cX12_token 199 = .ok (.bipush 48, 2) := by decide +kernel
theorem dX12_token_201 : decode cX12_token 201 = .ok (.isub, 1) := by decide +kernel
theorem dX12_token_202 : decode cX12_token 202 = .ok (.putfield 118, 3) := by decide +kernel
theorem dX12_token_205 : decode cX12_token 205 = .ok (.aload_n 0, 1) := by decide +kernel
theorem dX12_token_206 : decode cX12_token 206 = .ok (.aload_n 0, 1) := by decide +kernel
theorem dX12_token_207 : decode cX12_token 207 = .ok (.getfield 104, 3) := by decide +kernel
theorem dX12_token_210 : decode cX12_token 210 = .ok (.iconst 1, 1) := by decide +kernel
theorem dX12_token_211 : decode cX12_token 211 = .ok (.iadd, 1) := by decide +kernel
theorem dX12_token_212 : decode cX12_token 212 = .ok (.putfield 104, 3) := by decide +kernel
theorem dX12_token_215 : decode cX12_token 215 = .ok (.goto (-63), 3) := by decide +kernel
theorem dX12_token_218 : decode cX12_token 218 = .ok (.aload_n 0, 1) := by decide +kernel
theorem dX12_token_219 : decode cX12_token 219 = .ok (.iload_n 2, 1) := by decide +kernel
theorem dX12_token_220 : decode cX12_token 220 = .ok (.ifCond .eq 11, 3) := by decide +kernel
theorem dX12_token_223 : decode cX12_token 223 = .ok (.aload_n 0, 1) := by decide +kernel
theorem dX12_token_224 : decode cX12_token 224 = .ok (.getfield 118, 3) := by decide +kernel
theorem dX12_token_227 : decode cX12_token 227 = .ok (.ineg, 1) := by decide +kernel
theorem dX12_token_228 : decode cX12_token 228 = .ok (.goto 7, 3) := by decide +kernel
theorem dX12_token_231 : decode cX12_token 231 = .ok (.aload_n 0, 1) := by decide +kernel
theorem dX12_token_232 : decode cX12_token 232 = .ok (.getfield 118, 3) := by decide +kernel
theorem dX12_token_235 : decode cX12_token 235 = .ok (.putfield 118, 3) := by decide +kernel
theorem dX12_token_238 : decode cX12_token 238 = .ok (.iconst 1, 1) := by decide +kernel
theorem dX12_token_239 : decode cX12_token 239 = .ok (.ireturn, 1) := by decide +kernel
theorem dX12_wrong_0 : decode cX12_wrong 0 = .ok (.sipush (-1000), 3) := by decide +kernel
theorem dX12_wrong_3 : decode cX12_wrong 3 = .ok (.iload_n 1, 1) := by decide +kernel
theorem dX12_wrong_4 : decode cX12_wrong 4 = .ok (.imul, 1) := by decide +kernel
theorem dX12_wrong_5 : decode cX12_wrong 5 = .ok (.aload_n 0, 1) := by decide +kernel
theorem dX12_wrong_6 : decode cX12_wrong 6 = .ok (.getfield 111, 3) := by decide +kernel
theorem dX12_wrong_9 : decode cX12_wrong 9 = .ok (.isub, 1) := by decide +kernel
theorem dX12_wrong_10 : decode cX12_wrong 10 = .ok (.ireturn, 1) := by decide +kernel
theorem dX12_reads_0 : decode cX12_reads 0 = .ok (.aload_n 0, 1) := by decide +kernel
theorem dX12_reads_1 : decode cX12_reads 1 = .ok (.iconst 0, 1) := by decide +kernel
theorem dX12_reads_2 : decode cX12_reads 2 = .ok (.putfield 121, 3) := by decide +kernel
theorem dX12_reads_5 : decode cX12_reads 5 = .ok (.aload_n 0, 1) := by decide +kernel
theorem dX12_reads_6 : decode cX12_reads 6 = .ok (.iconst 0, 1) := by decide +kernel
theorem dX12_reads_7 : decode cX12_reads 7 = .ok (.putfield 124, 3) := by decide +kernel
theorem dX12_reads_10 : decode cX12_reads 10 = .ok (.iconst 0, 1) := by decide +kernel
theorem dX12_reads_11 : decode cX12_reads 11 = .ok (.istore_n 2, 1) := by decide +kernel
theorem dX12_reads_12 : decode cX12_reads 12 = .ok (.aload_n 0, 1) := by decide +kernel
theorem dX12_reads_13 : decode cX12_reads 13 = .ok (.invokevirtual 127, 3) := by decide +kernel
theorem dX12_reads_16 : decode cX12_reads 16 = .ok (.istore_n 3, 1) := by decide +kernel
theorem dX12_reads_17 : decode cX12_reads 17 = .ok (.iload_n 3, 1) := by decide +kernel
theorem dX12_reads_18 : decode cX12_reads 18 = .ok (.ifCond .eq 313, 3) := by decide +kernel
theorem dX12_reads_21 : decode cX12_reads 21 = .ok (.iload_n 3, 1) := by decide +kernel
theorem dX12_reads_22 : decode cX12_reads 22 = .ok (.iconst 3, 1) := by decide +kernel
theorem dX12_reads_23 : decode cX12_reads 23 = .ok (.if_icmp .eq 19, 3) := by decide +kernel
theorem dX12_reads_26 : decode cX12_reads 26 = .ok (.iload_n 3, 1) := by decide +kernel
theorem dX12_reads_27 : decode cX12_reads 27 = .ok (.iconst 2, 1) := by decide +kernel
theorem dX12_reads_28 : decode cX12_reads 28 = .ok (.if_icmp .ne 20, 3) := by decide +kernel
theorem dX12_reads_31 : decode cX12_reads 31 = .ok (.iload_n 2, 1) := by decide +kernel
theorem dX12_reads_32 : decode cX12_reads 32 = .ok (.ifCond .ne 10, 3) := by decide +kernel
theorem dX12_reads_35 : decode cX12_reads 35 = .ok (.aload_n 0, 1) := by decide +kernel
theorem dX12_reads_36 : decode cX12_reads 36 = .ok (.getfield 121, 3) := by decide +kernel
theorem dX12_reads_39 : decode cX12_reads 39 = .ok (.ifCond .ne 9, 3) := by decide +kernel
theorem dX12_reads_42 : decode cX12_reads 42 = .ok (.aload_n 0, 1) := by decide +kernel
theorem dX12_reads_43 : decode cX12_reads 43 = .ok (.iconst 1, 1) := by decide +kernel
theorem dX12_reads_44 : decode cX12_reads 44 = .ok (.invokevirtual 131, 3) := by decide +kernel
theorem dX12_reads_47 : decode cX12_reads 47 = .ok (.ireturn, 1) := by decide +kernel
theorem dX12_reads_48 : decode cX12_reads 48 = .ok (.iload_n 3, 1) := by decide +kernel
theorem dX12_reads_49 : decode cX12_reads 49 = .ok (.iconst 2, 1) := by decide +kernel
theorem dX12_reads_50 : decode cX12_reads 50 = .ok (.if_icmp .ne 8, 3) := by decide +kernel
theorem dX12_reads_53 : decode cX12_reads 53 = .ok (.iconst 1, 1) := by decide +kernel
theorem dX12_reads_54 : decode cX12_reads 54 = .ok (.istore_n 2, 1) := by decide +kernel
theorem dX12_reads_55 : decode cX12_reads 55 = .ok (.goto 268, 3) := by decide +kernel
theorem dX12_reads_58 : decode cX12_reads 58 = .ok (.iload_n 2, 1) := by decide +kernel
theorem dX12_reads_59 : decode cX12_reads 59 = .ok (.ifCond .eq 164, 3) := by decide +kernel
theorem dX12_reads_62 : decode cX12_reads 62 = .ok (.aload_n 0, 1) := by decide +kernel
theorem dX12_reads_63 : decode cX12_reads 63 = .ok (.getfield 118, 3) := by decide +kernel
theorem dX12_reads_66 : decode cX12_reads 66 = .ok (.iload_n 1, 1) := by decide +kernel
theorem dX12_reads_67 : decode cX12_reads 67 = .ok (.ifCond .eq 8, 3) := by decide +kernel
theorem dX12_reads_70 : decode cX12_reads 70 = .ok (.bipush (-6), 2) := by decide +kernel
theorem dX12_reads_72 : decode cX12_reads 72 = .ok (.goto 4, 3) := by decide +kernel
theorem dX12_reads_75 : decode cX12_reads 75 = .ok (.iconst 1, 1) := by decide +kernel
theorem dX12_reads_76 : decode cX12_reads 76 = .ok (.iload_n 1, 1) := by decide +kernel
theorem dX12_reads_77 : decode cX12_reads 77 = .ok (.ifCond .eq 8, 3) := by decide +kernel
theorem dX12_reads_80 : decode cX12_reads 80 = .ok (.bipush 6, 2) := by decide +kernel
theorem dX12_reads_82 : decode cX12_reads 82 = .ok (.goto 5, 3) := by decide +kernel
theorem dX12_reads_85 : decode cX12_reads 85 = .ok (.bipush 36, 2) := by decide +kernel
theorem dX12_reads_87 : decode cX12_reads 87 = .ok (.invokestatic 134, 3) := by decide +kernel
theorem dX12_reads_90 : decode cX12_reads 90 = .ok (.ifCond .ne 9, 3) := by decide +kernel
theorem dX12_reads_93 : decode cX12_reads 93 = .ok (.aload_n 0, 1) := by decide +kernel
theorem dX12_reads_94 : decode cX12_reads 94 = .ok (.iconst 2, 1) := by decide +kernel
theorem dX12_reads_95 : decode cX12_reads 95 = .ok (.invokevirtual 131, 3) := by decide +kernel
theorem dX12_reads_98 : decode cX12_reads 98 = .ok (.ireturn, 1) := by decide +kernel
theorem dX12_reads_99 : decode cX12_reads 99 = .ok (.aload_n 0, 1) := by decide +kernel
theorem dX12_reads_100 : decode cX12_reads 100 = .ok (.getfield 124, 3) := by decide +kernel
theorem dX12_reads_103 : decode cX12_reads 103 = .ok (.aload_n 0, 1) := by decide +kernel
theorem dX12_reads_104 : decode cX12_reads 104 = .ok (.getfield 121, 3) := by decide +kernel
theorem dX12_reads_107 : decode cX12_reads 107 = .ok (.iconst 1, 1) := by decide +kernel
theorem dX12_reads_108 : decode cX12_reads 108 = .ok (.isub, 1) := by decide +kernel
theorem dX12_reads_109 : decode cX12_reads 109 = .ok (.if_icmp .ne 9, 3) := by decide +kernel
theorem dX12_reads_112 : decode cX12_reads 112 = .ok (.aload_n 0, 1) := by decide +kernel
theorem dX12_reads_113 : decode cX12_reads 113 = .ok (.iconst 3, 1) := by decide +kernel
theorem dX12_reads_114 : decode cX12_reads 114 = .ok (.invokevirtual 131, 3) := by decide +kernel
theorem dX12_reads_117 : decode cX12_reads 117 = .ok (.ireturn, 1) := by decide +kernel
theorem dX12_reads_118 : decode cX12_reads 118 = .ok (.iload_n 1, 1) := by decide +kernel
theorem dX12_reads_119 : decode cX12_reads 119 = .ok (.ifCond .eq 34, 3) := by decide +kernel
theorem dX12_reads_122 : decode cX12_reads 122 = .ok (.aload_n 0, 1) := by decide +kernel
theorem dX12_reads_123 : decode cX12_reads 123 = .ok (.getfield 124, 3) := by decide +kernel
theorem dX12_reads_126 : decode cX12_reads 126 = .ok (.ifCond .le 27, 3) := by decide +kernel
theorem dX12_reads_129 : decode cX12_reads 129 = .ok (.aload_n 0, 1) := by decide +kernel
theorem dX12_reads_130 : decode cX12_reads 130 = .ok (.getfield 118, 3) := by decide +kernel
theorem dX12_reads_133 : decode cX12_reads 133 = .ok (.aload_n 0, 1) := by decide +kernel
theorem dX12_reads_134 : decode cX12_reads 134 = .ok (.getfield 17, 3) := by decide +kernel
theorem dX12_reads_137 : decode cX12_reads 137 = .ok (.aload_n 0, 1) := by decide +kernel
theorem dX12_reads_138 : decode cX12_reads 138 = .ok (.getfield 124, 3) := by decide +kernel
theorem dX12_reads_141 : decode cX12_reads 141 = .ok (.iconst 1, 1) := by decide +kernel
theorem dX12_reads_142 : decode cX12_reads 142 = .ok (.isub, 1) := by decide +kernel
theorem dX12_reads_143 : decode cX12_reads 143 = .ok (.iaload, 1) := by decide +kernel
theorem dX12_reads_144 : decode cX12_reads 144 = .ok (.if_icmp .gt 9, 3) := by decide +kernel
theorem dX12_reads_147 : decode cX12_reads 147 = .ok (.aload_n 0, 1) := by decide +kernel
theorem dX12_reads_148 : decode cX12_reads 148 = .ok (.iconst 4, 1) := by decide +kernel
theorem dX12_reads_149 : decode cX12_reads 149 = .ok (.invokevirtual 131, 3) := by decide +kernel
theorem dX12_reads_152 : decode cX12_reads 152 = .ok (.ireturn, 1) := by decide +kernel
theorem dX12_reads_153 : decode cX12_reads 153 = .ok (.iload_n 1, 1) := by decide +kernel
theorem dX12_reads_154 : decode cX12_reads 154 = .ok (.ifCond .eq 43, 3) := by decide +kernel
theorem dX12_reads_157 : decode cX12_reads 157 = .ok (.aload_n 0, 1) := by decide +kernel
theorem dX12_reads_158 : decode cX12_reads 158 = .ok (.getfield 118, 3) := by decide +kernel
theorem dX12_reads_161 : decode cX12_reads 161 = .ok (.aload_n 0, 1) := by decide +kernel
theorem dX12_reads_162 : decode cX12_reads 162 = .ok (.getfield 13, 3) := by decide +kernel
theorem dX12_reads_165 : decode cX12_reads 165 = .ok (.aload_n 0, 1) := by decide +kernel
theorem dX12_reads_166 : decode cX12_reads 166 = .ok (.getfield 124, 3) := by decide +kernel
theorem dX12_reads_169 : decode cX12_reads 169 = .ok (.iaload, 1) := by decide +kernel
theorem dX12_reads_170 : decode cX12_reads 170 = .ok (.if_icmp .le 21, 3) := by decide +kernel
theorem dX12_reads_173 : decode cX12_reads 173 = .ok (.aload_n 0, 1) := by decide +kernel
theorem dX12_reads_174 : decode cX12_reads 174 = .ok (.getfield 118, 3) := by decide +kernel
theorem dX12_reads_177 : decode cX12_reads 177 = .ok (.aload_n 0, 1) := by decide +kernel
theorem dX12_reads_178 : decode cX12_reads 178 = .ok (.getfield 13, 3) := by decide +kernel
theorem dX12_reads_181 : decode cX12_reads 181 = .ok (.aload_n 0, 1) := by decide +kernel
theorem dX12_reads_182 : decode cX12_reads 182 = .ok (.getfield 124, 3) := by decide +kernel
theorem dX12_reads_185 : decode cX12_reads 185 = .ok (.iconst 1, 1) := by decide +kernel
theorem dX12_reads_186 : decode cX12_reads 186 = .ok (.iadd, 1) := by decide +kernel
theorem dX12_reads_187 : decode cX12_reads 187 = .ok (.iaload, 1) := by decide +kernel
theorem dX12_reads_188 : decode cX12_reads 188 = .ok (.if_icmp .lt 9, 3) := by decide +kernel
theorem dX12_reads_191 : decode cX12_reads 191 = .ok (.aload_n 0, 1) := by decide +kernel
theorem dX12_reads_192 : decode cX12_reads 192 = .ok (.iconst 5, 1) := by decide +kernel
theorem dX12_reads_193 : decode cX12_reads 193 = .ok (.invokevirtual 131, 3) := by decide +kernel
theorem dX12_reads_196 : decode cX12_reads 196 = .ok (.ireturn, 1) := by decide +kernel
theorem dX12_reads_197 : decode cX12_reads 197 = .ok (.aload_n 0, 1) := by decide +kernel
theorem dX12_reads_198 : decode cX12_reads 198 = .ok (.getfield 17, 3) := by decide +kernel
theorem dX12_reads_201 : decode cX12_reads 201 = .ok (.aload_n 0, 1) := by decide +kernel
theorem dX12_reads_202 : decode cX12_reads 202 = .ok (.getfield 124, 3) := by decide +kernel
theorem dX12_reads_205 : decode cX12_reads 205 = .ok (.aload_n 0, 1) := by decide +kernel
theorem dX12_reads_206 : decode cX12_reads 206 = .ok (.getfield 118, 3) := by decide +kernel
theorem dX12_reads_209 : decode cX12_reads 209 = .ok (.iastore, 1) := by decide +kernel
theorem dX12_reads_210 : decode cX12_reads 210 = .ok (.aload_n 0, 1) := by decide +kernel
theorem dX12_reads_211 : decode cX12_reads 211 = .ok (.aload_n 0, 1) := by decide +kernel
theorem dX12_reads_212 : decode cX12_reads 212 = .ok (.getfield 124, 3) := by decide +kernel
theorem dX12_reads_215 : decode cX12_reads 215 = .ok (.iconst 1, 1) := by decide +kernel
theorem dX12_reads_216 : decode cX12_reads 216 = .ok (.iadd, 1) := by decide +kernel
theorem dX12_reads_217 : decode cX12_reads 217 = .ok (.putfield 124, 3) := by decide +kernel
theorem dX12_reads_220 : decode cX12_reads 220 = .ok (.goto 103, 3) := by decide +kernel
theorem dX12_reads_223 : decode cX12_reads 223 = .ok (.aload_n 0, 1) := by decide +kernel
theorem dX12_reads_224 : decode cX12_reads 224 = .ok (.getfield 118, 3) := by decide +kernel
theorem dX12_reads_227 : decode cX12_reads 227 = .ok (.bipush (-6), 2) := by decide +kernel
theorem dX12_reads_229 : decode cX12_reads 229 = .ok (.bipush 6, 2) := by decide +kernel
theorem dX12_reads_231 : decode cX12_reads 231 = .ok (.invokestatic 134, 3) := by decide +kernel
theorem dX12_reads_234 : decode cX12_reads 234 = .ok (.ifCond .ne 9, 3) := by decide +kernel
theorem dX12_reads_237 : decode cX12_reads 237 = .ok (.aload_n 0, 1) := by decide +kernel
theorem dX12_reads_238 : decode cX12_reads 238 = .ok (.iconst 2, 1) := by decide +kernel
theorem dX12_reads_239 : decode cX12_reads 239 = .ok (.invokevirtual 131, 3) := by decide +kernel
theorem dX12_reads_242 : decode cX12_reads 242 = .ok (.ireturn, 1) := by decide +kernel
theorem dX12_reads_243 : decode cX12_reads 243 = .ok (.aload_n 0, 1) := by decide +kernel
theorem dX12_reads_244 : decode cX12_reads 244 = .ok (.getfield 121, 3) := by decide +kernel
theorem dX12_reads_247 : decode cX12_reads 247 = .ok (.iload_n 1, 1) := by decide +kernel
theorem dX12_reads_248 : decode cX12_reads 248 = .ok (.ifCond .eq 7, 3) := by decide +kernel
theorem dX12_reads_251 : decode cX12_reads 251 = .ok (.iconst 4, 1) := by decide +kernel
theorem dX12_reads_252 : decode cX12_reads 252 = .ok (.goto 4, 3) := by decide +kernel
theorem dX12_reads_255 : decode cX12_reads 255 = .ok (.iconst 5, 1) := by decide +kernel
theorem dX12_reads_256 : decode cX12_reads 256 = .ok (.if_icmp .ne 9, 3) := by decide +kernel
theorem dX12_reads_259 : decode cX12_reads 259 = .ok (.aload_n 0, 1) := by decide +kernel
theorem dX12_reads_260 : decode cX12_reads 260 = .ok (.iconst 3, 1) := by decide +kernel
theorem dX12_reads_261 : decode cX12_reads 261 = .ok (.invokevirtual 131, 3) := by decide +kernel
theorem dX12_reads_264 : decode cX12_reads 264 = .ok (.ireturn, 1) := by decide +kernel
theorem dX12_reads_265 : decode cX12_reads 265 = .ok (.iload_n 1, 1) := by decide +kernel
theorem dX12_reads_266 : decode cX12_reads 266 = .ok (.ifCond .eq 34, 3) := by decide +kernel
theorem dX12_reads_269 : decode cX12_reads 269 = .ok (.aload_n 0, 1) := by decide +kernel
theorem dX12_reads_270 : decode cX12_reads 270 = .ok (.getfield 121, 3) := by decide +kernel
theorem dX12_reads_273 : decode cX12_reads 273 = .ok (.ifCond .le 27, 3) := by decide +kernel
theorem dX12_reads_276 : decode cX12_reads 276 = .ok (.aload_n 0, 1) := by decide +kernel
theorem dX12_reads_277 : decode cX12_reads 277 = .ok (.getfield 118, 3) := by decide +kernel
theorem dX12_reads_280 : decode cX12_reads 280 = .ok (.aload_n 0, 1) := by decide +kernel
theorem dX12_reads_281 : decode cX12_reads 281 = .ok (.getfield 13, 3) := by decide +kernel
theorem dX12_reads_284 : decode cX12_reads 284 = .ok (.aload_n 0, 1) := by decide +kernel
theorem dX12_reads_285 : decode cX12_reads 285 = .ok (.getfield 121, 3) := by decide +kernel
theorem dX12_reads_288 : decode cX12_reads 288 = .ok (.iconst 1, 1) := by decide +kernel
theorem dX12_reads_289 : decode cX12_reads 289 = .ok (.isub, 1) := by decide +kernel
theorem dX12_reads_290 : decode cX12_reads 290 = .ok (.iaload, 1) := by decide +kernel
theorem dX12_reads_291 : decode cX12_reads 291 = .ok (.if_icmp .gt 9, 3) := by decide +kernel
theorem dX12_reads_294 : decode cX12_reads 294 = .ok (.aload_n 0, 1) := by decide +kernel
theorem dX12_reads_295 : decode cX12_reads 295 = .ok (.iconst 4, 1) := by decide +kernel
theorem dX12_reads_296 : decode cX12_reads 296 = .ok (.invokevirtual 131, 3) := by decide +kernel
theorem dX12_reads_299 : decode cX12_reads 299 = .ok (.ireturn, 1) := by decide +kernel
theorem dX12_reads_300 : decode cX12_reads 300 = .ok (.aload_n 0, 1) := by decide +kernel
theorem dX12_reads_301 : decode cX12_reads 301 = .ok (.getfield 13, 3) := by decide +kernel
theorem dX12_reads_304 : decode cX12_reads 304 = .ok (.aload_n 0, 1) := by decide +kernel
theorem dX12_reads_305 : decode cX12_reads 305 = .ok (.getfield 121, 3) := by decide +kernel
theorem dX12_reads_308 : decode cX12_reads 308 = .ok (.aload_n 0, 1) := by decide +kernel
theorem dX12_reads_309 : decode cX12_reads 309 = .ok (.getfield 118, 3) := by decide +kernel
theorem dX12_reads_312 : decode cX12_reads 312 = .ok (.iastore, 1) := by decide +kernel
theorem dX12_reads_313 : decode cX12_reads 313 = .ok (.aload_n 0, 1) := by decide +kernel
theorem dX12_reads_314 : decode cX12_reads 314 = .ok (.aload_n 0, 1) := by decide +kernel
theorem dX12_reads_315 : decode cX12_reads 315 = .ok (.getfield 121, 3) := by decide +kernel
theorem dX12_reads_318 : decode cX12_reads 318 = .ok (.iconst 1, 1) := by decide +kernel
theorem dX12_reads_319 : decode cX12_reads 319 = .ok (.iadd, 1) := by decide +kernel
theorem dX12_reads_320 : decode cX12_reads 320 = .ok (.putfield 121, 3) := by decide +kernel
theorem dX12_reads_323 : decode cX12_reads 323 = .ok (.aload_n 0, 1) := by decide +kernel
theorem dX12_reads_324 : decode cX12_reads 324 = .ok (.invokevirtual 127, 3) := by decide +kernel
theorem dX12_reads_327 : decode cX12_reads 327 = .ok (.istore_n 3, 1) := by decide +kernel
theorem dX12_reads_328 : decode cX12_reads 328 = .ok (.goto (-311), 3) := by decide +kernel
theorem dX12_reads_331 : decode cX12_reads 331 = .ok (.iload_n 2, 1) := by decide +kernel
theorem dX12_reads_332 : decode cX12_reads 332 = .ok (.ifCond .eq 16, 3) := by decide +kernel
theorem dX12_reads_335 : decode cX12_reads 335 = .ok (.aload_n 0, 1) := by decide +kernel
theorem dX12_reads_336 : decode cX12_reads 336 = .ok (.getfield 124, 3) := by decide +kernel
theorem dX12_reads_339 : decode cX12_reads 339 = .ok (.aload_n 0, 1) := by decide +kernel
theorem dX12_reads_340 : decode cX12_reads 340 = .ok (.getfield 121, 3) := by decide +kernel
theorem dX12_reads_343 : decode cX12_reads 343 = .ok (.iconst 1, 1) := by decide +kernel
theorem dX12_reads_344 : decode cX12_reads 344 = .ok (.isub, 1) := by decide +kernel
theorem dX12_reads_345 : decode cX12_reads 345 = .ok (.if_icmp .ge 11, 3) := by decide +kernel
theorem dX12_reads_348 : decode cX12_reads 348 = .ok (.aload_n 0, 1) := by decide +kernel
theorem dX12_reads_349 : decode cX12_reads 349 = .ok (.iconst 1, 1) := by decide +kernel
theorem dX12_reads_350 : decode cX12_reads 350 = .ok (.invokevirtual 131, 3) := by decide +kernel
theorem dX12_reads_353 : decode cX12_reads 353 = .ok (.goto 4, 3) := by decide +kernel
theorem dX12_reads_356 : decode cX12_reads 356 = .ok (.iconst 0, 1) := by decide +kernel
theorem dX12_reads_357 : decode cX12_reads 357 = .ok (.ireturn, 1) := by decide +kernel
theorem dX12_begins_0 : decode cX12_begins 0 = .ok (.aload_n 0, 1) := by decide +kernel
theorem dX12_begins_1 : decode cX12_begins 1 = .ok (.iconst 0, 1) := by decide +kernel
theorem dX12_begins_2 : decode cX12_begins 2 = .ok (.putfield 104, 3) := by decide +kernel
theorem dX12_begins_5 : decode cX12_begins 5 = .ok (.aload_n 0, 1) := by decide +kernel
theorem dX12_begins_6 : decode cX12_begins 6 = .ok (.iload_n 1, 1) := by decide +kernel
theorem dX12_begins_7 : decode cX12_begins 7 = .ok (.putfield 101, 3) := by decide +kernel
theorem dX12_begins_10 : decode cX12_begins 10 = .ok (.aload_n 0, 1) := by decide +kernel
theorem dX12_begins_11 : decode cX12_begins 11 = .ok (.iconst 0, 1) := by decide +kernel
theorem dX12_begins_12 : decode cX12_begins 12 = .ok (.putfield 93, 3) := by decide +kernel
theorem dX12_begins_15 : decode cX12_begins 15 = .ok (.iconst 0, 1) := by decide +kernel
theorem dX12_begins_16 : decode cX12_begins 16 = .ok (.ireturn, 1) := by decide +kernel
theorem dX12_tones_0 : decode cX12_tones 0 = .ok (.iload_n 1, 1) := by decide +kernel
theorem dX12_tones_1 : decode cX12_tones 1 = .ok (.iconst 1, 1) := by decide +kernel
theorem dX12_tones_2 : decode cX12_tones 2 = .ok (.bipush 60, 2) := by decide +kernel
theorem dX12_tones_4 : decode cX12_tones 4 = .ok (.invokestatic 134, 3) := by decide +kernel
theorem dX12_tones_7 : decode cX12_tones 7 = .ok (.ifCond .eq 11, 3) := by decide +kernel
theorem dX12_tones_10 : decode cX12_tones 10 = .ok (.iload_n 1, 1) := by decide +kernel
theorem dX12_tones_11 : decode cX12_tones 11 = .ok (.aload_n 0, 1) := by decide +kernel
theorem dX12_tones_12 : decode cX12_tones 12 = .ok (.getfield 93, 3) := by decide +kernel
theorem dX12_tones_15 : decode cX12_tones 15 = .ok (.if_icmp .le 5, 3) := by decide +kernel
theorem dX12_tones_18 : decode cX12_tones 18 = .ok (.iconst (-1), 1) := by decide +kernel
theorem dX12_tones_19 : decode cX12_tones 19 = .ok (.ireturn, 1) := by decide +kernel
theorem dX12_tones_20 : decode cX12_tones 20 = .ok (.aload_n 0, 1) := by decide +kernel
theorem dX12_tones_21 : decode cX12_tones 21 = .ok (.iload_n 1, 1) := by decide +kernel
theorem dX12_tones_22 : decode cX12_tones 22 = .ok (.invokevirtual 138, 3) := by decide +kernel
theorem dX12_tones_25 : decode cX12_tones 25 = .ok (.pop, 1) := by decide +kernel
theorem dX12_tones_26 : decode cX12_tones 26 = .ok (.aload_n 0, 1) := by decide +kernel
theorem dX12_tones_27 : decode cX12_tones 27 = .ok (.iconst 1, 1) := by decide +kernel
theorem dX12_tones_28 : decode cX12_tones 28 = .ok (.invokevirtual 141, 3) := by decide +kernel
theorem dX12_tones_31 : decode cX12_tones 31 = .ok (.istore_n 2, 1) := by decide +kernel
theorem dX12_tones_32 : decode cX12_tones 32 = .ok (.iload_n 2, 1) := by decide +kernel
theorem dX12_tones_33 : decode cX12_tones 33 = .ok (.ifCond .ge 5, 3) := by decide +kernel
theorem dX12_tones_36 : decode cX12_tones 36 = .ok (.iload_n 2, 1) := by decide +kernel
theorem dX12_tones_37 : decode cX12_tones 37 = .ok (.ireturn, 1) := by decide +kernel
theorem dX12_tones_38 : decode cX12_tones 38 = .ok (.aload_n 0, 1) := by decide +kernel
theorem dX12_tones_39 : decode cX12_tones 39 = .ok (.aload_n 0, 1) := by decide +kernel
theorem dX12_tones_40 : decode cX12_tones 40 = .ok (.getfield 121, 3) := by decide +kernel
theorem dX12_tones_43 : decode cX12_tones 43 = .ok (.putfield 145, 3) := by decide +kernel
theorem dX12_tones_46 : decode cX12_tones 46 = .ok (.iconst 0, 1) := by decide +kernel
theorem dX12_tones_47 : decode cX12_tones 47 = .ok (.istore_n 3, 1) := by decide +kernel
theorem dX12_tones_48 : decode cX12_tones 48 = .ok (.iload_n 3, 1) := by decide +kernel
theorem dX12_tones_49 : decode cX12_tones 49 = .ok (.aload_n 0, 1) := by decide +kernel
theorem dX12_tones_50 : decode cX12_tones 50 = .ok (.getfield 145, 3) := by decide +kernel
theorem dX12_tones_53 : decode cX12_tones 53 = .ok (.if_icmp .ge 21, 3) := by decide +kernel
theorem dX12_tones_56 : decode cX12_tones 56 = .ok (.aload_n 0, 1) := by decide +kernel
theorem dX12_tones_57 : decode cX12_tones 57 = .ok (.getfield 20, 3) := by decide +kernel
theorem dX12_tones_60 : decode cX12_tones 60 = .ok (.iload_n 3, 1) := by decide +kernel
theorem dX12_tones_61 : decode cX12_tones 61 = .ok (.aload_n 0, 1) := by decide +kernel
theorem dX12_tones_62 : decode cX12_tones 62 = .ok (.getfield 13, 3) := by decide +kernel
theorem dX12_tones_65 : decode cX12_tones 65 = .ok (.iload_n 3, 1) := by decide +kernel
theorem dX12_tones_66 : decode cX12_tones 66 = .ok (.iaload, 1) := by decide +kernel
theorem dX12_tones_67 : decode cX12_tones 67 = .ok (.iastore, 1) := by decide +kernel
theorem dX12_tones_68 : decode cX12_tones 68 = .ok (.iinc 3 1, 3) := by decide +kernel
theorem dX12_tones_71 : decode cX12_tones 71 = .ok (.goto (-23), 3) := by decide +kernel
theorem dX12_tones_74 : decode cX12_tones 74 = .ok (.iconst 0, 1) := by decide +kernel
theorem dX12_tones_75 : decode cX12_tones 75 = .ok (.istore_n 3, 1) := by decide +kernel
theorem dX12_tones_76 : decode cX12_tones 76 = .ok (.iload_n 3, 1) := by decide +kernel
theorem dX12_tones_77 : decode cX12_tones 77 = .ok (.aload_n 0, 1) := by decide +kernel
theorem dX12_tones_78 : decode cX12_tones 78 = .ok (.getfield 145, 3) := by decide +kernel
theorem dX12_tones_81 : decode cX12_tones 81 = .ok (.iconst 1, 1) := by decide +kernel
theorem dX12_tones_82 : decode cX12_tones 82 = .ok (.isub, 1) := by decide +kernel
theorem dX12_tones_83 : decode cX12_tones 83 = .ok (.if_icmp .ge 21, 3) := by decide +kernel
theorem dX12_tones_86 : decode cX12_tones 86 = .ok (.aload_n 0, 1) := by decide +kernel
theorem dX12_tones_87 : decode cX12_tones 87 = .ok (.getfield 23, 3) := by decide +kernel
theorem dX12_tones_90 : decode cX12_tones 90 = .ok (.iload_n 3, 1) := by decide +kernel
theorem dX12_tones_91 : decode cX12_tones 91 = .ok (.aload_n 0, 1) := by decide +kernel
theorem dX12_tones_92 : decode cX12_tones 92 = .ok (.getfield 17, 3) := by decide +kernel
theorem dX12_tones_95 : decode cX12_tones 95 = .ok (.iload_n 3, 1) := by decide +kernel
theorem dX12_tones_96 : decode cX12_tones 96 = .ok (.iaload, 1) := by decide +kernel
theorem dX12_tones_97 : decode cX12_tones 97 = .ok (.iastore, 1) := by decide +kernel
theorem dX12_tones_98 : decode cX12_tones 98 = .ok (.iinc 3 1, 3) := by decide +kernel
theorem dX12_tones_101 : decode cX12_tones 101 = .ok (.goto (-25), 3) := by decide +kernel
theorem dX12_tones_104 : decode cX12_tones 104 = .ok (.aload_n 0, 1) := by decide +kernel
theorem dX12_tones_105 : decode cX12_tones 105 = .ok (.getfield 145, 3) := by decide +kernel
theorem dX12_tones_108 : decode cX12_tones 108 = .ok (.ireturn, 1) := by decide +kernel
theorem dX12_count_0 : decode cX12_count 0 = .ok (.iload_n 1, 1) := by decide +kernel
theorem dX12_count_1 : decode cX12_count 1 = .ok (.bipush 10, 2) := by decide +kernel
theorem dX12_count_3 : decode cX12_count 3 = .ok (.bipush 9, 2) := by decide +kernel
theorem dX12_count_5 : decode cX12_count 5 = .ok (.aload_n 0, 1) := by decide +kernel
theorem dX12_count_6 : decode cX12_count 6 = .ok (.getfield 145, 3) := by decide +kernel
theorem dX12_count_9 : decode cX12_count 9 = .ok (.iadd, 1) := by decide +kernel
theorem dX12_count_10 : decode cX12_count 10 = .ok (.invokestatic 134, 3) := by decide +kernel
theorem dX12_count_13 : decode cX12_count 13 = .ok (.ifCond .eq 13, 3) := by decide +kernel
theorem dX12_count_16 : decode cX12_count 16 = .ok (.aload_n 0, 1) := by decide +kernel
theorem dX12_count_17 : decode cX12_count 17 = .ok (.getfield 20, 3) := by decide +kernel
theorem dX12_count_20 : decode cX12_count 20 = .ok (.iload_n 1, 1) := by decide +kernel
theorem dX12_count_21 : decode cX12_count 21 = .ok (.bipush 10, 2) := by decide +kernel
theorem dX12_count_23 : decode cX12_count 23 = .ok (.isub, 1) := by decide +kernel
theorem dX12_count_24 : decode cX12_count 24 = .ok (.iaload, 1) := by decide +kernel
theorem dX12_count_25 : decode cX12_count 25 = .ok (.ireturn, 1) := by decide +kernel
theorem dX12_count_26 : decode cX12_count 26 = .ok (.iload_n 1, 1) := by decide +kernel
theorem dX12_count_27 : decode cX12_count 27 = .ok (.bipush 20, 2) := by decide +kernel
theorem dX12_count_29 : decode cX12_count 29 = .ok (.bipush 18, 2) := by decide +kernel
theorem dX12_count_31 : decode cX12_count 31 = .ok (.aload_n 0, 1) := by decide +kernel
theorem dX12_count_32 : decode cX12_count 32 = .ok (.getfield 145, 3) := by decide +kernel
theorem dX12_count_35 : decode cX12_count 35 = .ok (.iadd, 1) := by decide +kernel
theorem dX12_count_36 : decode cX12_count 36 = .ok (.invokestatic 134, 3) := by decide +kernel
theorem dX12_count_39 : decode cX12_count 39 = .ok (.ifCond .eq 13, 3) := by decide +kernel
theorem dX12_count_42 : decode cX12_count 42 = .ok (.aload_n 0, 1) := by decide +kernel
theorem dX12_count_43 : decode cX12_count 43 = .ok (.getfield 23, 3) := by decide +kernel
theorem dX12_count_46 : decode cX12_count 46 = .ok (.iload_n 1, 1) := by decide +kernel
theorem dX12_count_47 : decode cX12_count 47 = .ok (.bipush 20, 2) := by decide +kernel
theorem dX12_count_49 : decode cX12_count 49 = .ok (.isub, 1) := by decide +kernel
theorem dX12_count_50 : decode cX12_count 50 = .ok (.iaload, 1) := by decide +kernel
theorem dX12_count_51 : decode cX12_count 51 = .ok (.ireturn, 1) := by decide +kernel
theorem dX12_count_52 : decode cX12_count 52 = .ok (.iconst 0, 1) := by decide +kernel
theorem dX12_count_53 : decode cX12_count 53 = .ok (.istore_n 2, 1) := by decide +kernel
theorem dX12_count_54 : decode cX12_count 54 = .ok (.iconst 0, 1) := by decide +kernel
theorem dX12_count_55 : decode cX12_count 55 = .ok (.istore_n 3, 1) := by decide +kernel
theorem dX12_count_56 : decode cX12_count 56 = .ok (.iload_n 3, 1) := by decide +kernel
theorem dX12_count_57 : decode cX12_count 57 = .ok (.iconst 4, 1) := by decide +kernel
theorem dX12_count_58 : decode cX12_count 58 = .ok (.if_icmp .ge 28, 3) := by decide +kernel
theorem dX12_count_61 : decode cX12_count 61 = .ok (.iload_n 2, 1) := by decide +kernel
theorem dX12_count_62 : decode cX12_count 62 = .ok (.aload_n 0, 1) := by decide +kernel
theorem dX12_count_63 : decode cX12_count 63 = .ok (.getfield 48, 3) := by decide +kernel
theorem dX12_count_66 : decode cX12_count 66 = .ok (.iload_n 3, 1) := by decide +kernel
theorem dX12_count_67 : decode cX12_count 67 = .ok (.iaload, 1) := by decide +kernel
theorem dX12_count_68 : decode cX12_count 68 = .ok (.ifCond .le 9, 3) := by decide +kernel
theorem dX12_count_71 : decode cX12_count 71 = .ok (.iconst 1, 1) := by decide +kernel
theorem dX12_count_72 : decode cX12_count 72 = .ok (.iload_n 3, 1) := by decide +kernel
theorem dX12_count_73 : decode cX12_count 73 = .ok (.ishl, 1) := by decide +kernel
theorem dX12_count_74 : decode cX12_count 74 = .ok (.goto 4, 3) := by decide +kernel
theorem dX12_count_77 : decode cX12_count 77 = .ok (.iconst 0, 1) := by decide +kernel
theorem dX12_count_78 : decode cX12_count 78 = .ok (.ior, 1) := by decide +kernel
theorem dX12_count_79 : decode cX12_count 79 = .ok (.istore_n 2, 1) := by decide +kernel
theorem dX12_count_80 : decode cX12_count 80 = .ok (.iinc 3 1, 3) := by decide +kernel
theorem dX12_count_83 : decode cX12_count 83 = .ok (.goto (-27), 3) := by decide +kernel
theorem dX12_count_86 : decode cX12_count 86 = .ok (.iload_n 1, 1) := by decide +kernel
theorem dX12_count_87 : decode cX12_count 87 = .ok (.ifCond .ne 10, 3) := by decide +kernel
theorem dX12_count_90 : decode cX12_count 90 = .ok (.aload_n 0, 1) := by decide +kernel
theorem dX12_count_91 : decode cX12_count 91 = .ok (.getfield 145, 3) := by decide +kernel
theorem dX12_count_94 : decode cX12_count 94 = .ok (.goto 38, 3) := by decide +kernel
theorem dX12_count_97 : decode cX12_count 97 = .ok (.iload_n 1, 1) := by decide +kernel
theorem dX12_count_98 : decode cX12_count 98 = .ok (.iconst 1, 1) := by decide +kernel
theorem dX12_count_99 : decode cX12_count 99 = .ok (.if_icmp .ne 7, 3) := by decide +kernel
theorem dX12_count_102 : decode cX12_count 102 = .ok (.iload_n 2, 1) := by decide +kernel
theorem dX12_count_103 : decode cX12_count 103 = .ok (.goto 29, 3) := by decide +kernel
theorem dX12_count_106 : decode cX12_count 106 = .ok (.iload_n 1, 1) := by decide +kernel
theorem dX12_count_107 : decode cX12_count 107 = .ok (.iconst 2, 1) := by decide +kernel
theorem dX12_count_108 : decode cX12_count 108 = .ok (.if_icmp .ne 10, 3) := by decide +kernel
theorem dX12_count_111 : decode cX12_count 111 = .ok (.aload_n 0, 1) := by decide +kernel
theorem dX12_count_112 : decode cX12_count 112 = .ok (.getfield 93, 3) := by decide +kernel
theorem dX12_count_115 : decode cX12_count 115 = .ok (.goto 17, 3) := by decide +kernel
theorem dX12_count_118 : decode cX12_count 118 = .ok (.iload_n 1, 1) := by decide +kernel
theorem dX12_count_119 : decode cX12_count 119 = .ok (.iconst 3, 1) := by decide +kernel
theorem dX12_count_120 : decode cX12_count 120 = .ok (.if_icmp .ne 10, 3) := by decide +kernel
theorem dX12_count_123 : decode cX12_count 123 = .ok (.aload_n 0, 1) := by decide +kernel
theorem dX12_count_124 : decode cX12_count 124 = .ok (.getfield 148, 3) := by decide +kernel
theorem dX12_count_127 : decode cX12_count 127 = .ok (.goto 5, 3) := by decide +kernel
theorem dX12_count_130 : decode cX12_count 130 = .ok (.ldc 151, 2) := by decide +kernel
theorem dX12_count_132 : decode cX12_count 132 = .ok (.ireturn, 1) := by decide +kernel
theorem dX12_times_0 : decode cX12_times 0 = .ok (.aload_n 0, 1) := by decide +kernel
theorem dX12_times_1 : decode cX12_times 1 = .ok (.iload_n 1, 1) := by decide +kernel
theorem dX12_times_2 : decode cX12_times 2 = .ok (.iconst 1, 1) := by decide +kernel
theorem dX12_times_3 : decode cX12_times 3 = .ok (.iadd, 1) := by decide +kernel
theorem dX12_times_4 : decode cX12_times 4 = .ok (.aload_n 0, 1) := by decide +kernel
theorem dX12_times_5 : decode cX12_times 5 = .ok (.iload_n 1, 1) := by decide +kernel
theorem dX12_times_6 : decode cX12_times 6 = .ok (.laload, 1) := by decide +kernel
theorem dX12_times_7 : decode cX12_times 7 = .ok (.lastore, 1) := by decide +kernel
theorem dX12_times_8 : decode cX12_times 8 = .ok (.iload_n 1, 1) := by decide +kernel
theorem dX12_times_9 : decode cX12_times 9 = .ok (.istore_n 3, 1) := by decide +kernel
theorem dX12_times_10 : decode cX12_times 10 = .ok (.iload_n 3, 1) := by decide +kernel
theorem dX12_times_11 : decode cX12_times 11 = .ok (.ifCond .le 24, 3) := by decide +kernel
theorem dX12_times_14 : decode cX12_times 14 = .ok (.aload_n 0, 1) := by decide +kernel
theorem dX12_times_15 : decode cX12_times 15 = .ok (.iload_n 3, 1) := by decide +kernel
theorem dX12_times_16 : decode cX12_times 16 = .ok (.aload_n 0, 1) := by decide +kernel
theorem dX12_times_17 : decode cX12_times 17 = .ok (.iload_n 3, 1) := by decide +kernel
theorem dX12_times_18 : decode cX12_times 18 = .ok (.iconst 1, 1) := by decide +kernel
theorem dX12_times_19 : decode cX12_times 19 = .ok (.isub, 1) := by decide +kernel
theorem dX12_times_20 : decode cX12_times 20 = .ok (.laload, 1) := by decide +kernel
theorem dX12_times_21 : decode cX12_times 21 = .ok (.iload_n 2, 1) := by decide +kernel
theorem dX12_times_22 : decode cX12_times 22 = .ok (.i2l, 1) := by decide +kernel
theorem dX12_times_23 : decode cX12_times 23 = .ok (.aload_n 0, 1) := by decide +kernel
theorem dX12_times_24 : decode cX12_times 24 = .ok (.iload_n 3, 1) := by decide +kernel
theorem dX12_times_25 : decode cX12_times 25 = .ok (.laload, 1) := by decide +kernel
theorem dX12_times_26 : decode cX12_times 26 = .ok (.lmul, 1) := by decide +kernel
theorem dX12_times_27 : decode cX12_times 27 = .ok (.lsub, 1) := by decide +kernel
theorem dX12_times_28 : decode cX12_times 28 = .ok (.lastore, 1) := by decide +kernel
theorem dX12_times_29 : decode cX12_times 29 = .ok (.iinc 3 (-1), 3) := by decide +kernel
theorem dX12_times_32 : decode cX12_times 32 = .ok (.goto (-22), 3) := by decide +kernel
theorem dX12_times_35 : decode cX12_times 35 = .ok (.aload_n 0, 1) := by decide +kernel
theorem dX12_times_36 : decode cX12_times 36 = .ok (.iconst 0, 1) := by decide +kernel
theorem dX12_times_37 : decode cX12_times 37 = .ok (.iload_n 2, 1) := by decide +kernel
theorem dX12_times_38 : decode cX12_times 38 = .ok (.ineg, 1) := by decide +kernel
theorem dX12_times_39 : decode cX12_times 39 = .ok (.i2l, 1) := by decide +kernel
theorem dX12_times_40 : decode cX12_times 40 = .ok (.aload_n 0, 1) := by decide +kernel
theorem dX12_times_41 : decode cX12_times 41 = .ok (.iconst 0, 1) := by decide +kernel
theorem dX12_times_42 : decode cX12_times 42 = .ok (.laload, 1) := by decide +kernel
theorem dX12_times_43 : decode cX12_times 43 = .ok (.lmul, 1) := by decide +kernel
theorem dX12_times_44 : decode cX12_times 44 = .ok (.lastore, 1) := by decide +kernel
theorem dX12_times_45 : decode cX12_times 45 = .ok (.return_, 1) := by decide +kernel
theorem dX12_laysTones_0 : decode cX12_laysTones 0 = .ok (.aload_n 0, 1) := by decide +kernel
theorem dX12_laysTones_1 : decode cX12_laysTones 1 = .ok (.getfield 26, 3) := by decide +kernel
theorem dX12_laysTones_4 : decode cX12_laysTones 4 = .ok (.iconst 0, 1) := by decide +kernel
theorem dX12_laysTones_5 : decode cX12_laysTones 5 = .ok (.lconst 1, 1) := by decide +kernel
theorem dX12_laysTones_6 : decode cX12_laysTones 6 = .ok (.lastore, 1) := by decide +kernel
theorem dX12_laysTones_7 : decode cX12_laysTones 7 = .ok (.aload_n 0, 1) := by decide +kernel
theorem dX12_laysTones_8 : decode cX12_laysTones 8 = .ok (.getfield 30, 3) := by decide +kernel
theorem dX12_laysTones_11 : decode cX12_laysTones 11 = .ok (.iconst 0, 1) := by decide +kernel
theorem dX12_laysTones_12 : decode cX12_laysTones 12 = .ok (.lconst 1, 1) := by decide +kernel
theorem dX12_laysTones_13 : decode cX12_laysTones 13 = .ok (.lastore, 1) := by decide +kernel
theorem dX12_laysTones_14 : decode cX12_laysTones 14 = .ok (.iconst 0, 1) := by decide +kernel
theorem dX12_laysTones_15 : decode cX12_laysTones 15 = .ok (.istore_n 1, 1) := by decide +kernel
theorem dX12_laysTones_16 : decode cX12_laysTones 16 = .ok (.iload_n 1, 1) := by decide +kernel
theorem dX12_laysTones_17 : decode cX12_laysTones 17 = .ok (.aload_n 0, 1) := by decide +kernel
theorem dX12_laysTones_18 : decode cX12_laysTones 18 = .ok (.getfield 145, 3) := by decide +kernel
theorem dX12_laysTones_21 : decode cX12_laysTones 21 = .ok (.if_icmp .ge 23, 3) := by decide +kernel
theorem dX12_laysTones_24 : decode cX12_laysTones 24 = .ok (.aload_n 0, 1) := by decide +kernel
theorem dX12_laysTones_25 : decode cX12_laysTones 25 = .ok (.getfield 26, 3) := by decide +kernel
theorem dX12_laysTones_28 : decode cX12_laysTones 28 = .ok (.iload_n 1, 1) := by decide +kernel
theorem dX12_laysTones_29 : decode cX12_laysTones 29 = .ok (.aload_n 0, 1) := by decide +kernel
theorem dX12_laysTones_30 : decode cX12_laysTones 30 = .ok (.getfield 20, 3) := by decide +kernel
theorem dX12_laysTones_33 : decode cX12_laysTones 33 = .ok (.iload_n 1, 1) := by decide +kernel
theorem dX12_laysTones_34 : decode cX12_laysTones 34 = .ok (.iaload, 1) := by decide +kernel
theorem dX12_laysTones_35 : decode cX12_laysTones 35 = .ok (.invokestatic 152, 3) := by decide +kernel
theorem dX12_laysTones_38 : decode cX12_laysTones 38 = .ok (.iinc 1 1, 3) := by decide +kernel
theorem dX12_laysTones_41 : decode cX12_laysTones 41 = .ok (.goto (-25), 3) := by decide +kernel
theorem dX12_laysTones_44 : decode cX12_laysTones 44 = .ok (.iconst 0, 1) := by decide +kernel
theorem dX12_laysTones_45 : decode cX12_laysTones 45 = .ok (.istore_n 1, 1) := by decide +kernel
theorem dX12_laysTones_46 : decode cX12_laysTones 46 = .ok (.iload_n 1, 1) := by decide +kernel
theorem dX12_laysTones_47 : decode cX12_laysTones 47 = .ok (.aload_n 0, 1) := by decide +kernel
theorem dX12_laysTones_48 : decode cX12_laysTones 48 = .ok (.getfield 145, 3) := by decide +kernel
theorem dX12_laysTones_51 : decode cX12_laysTones 51 = .ok (.iconst 1, 1) := by decide +kernel
theorem dX12_laysTones_52 : decode cX12_laysTones 52 = .ok (.isub, 1) := by decide +kernel
theorem dX12_laysTones_53 : decode cX12_laysTones 53 = .ok (.if_icmp .ge 23, 3) := by decide +kernel
theorem dX12_laysTones_56 : decode cX12_laysTones 56 = .ok (.aload_n 0, 1) := by decide +kernel
theorem dX12_laysTones_57 : decode cX12_laysTones 57 = .ok (.getfield 30, 3) := by decide +kernel
theorem dX12_laysTones_60 : decode cX12_laysTones 60 = .ok (.iload_n 1, 1) := by decide +kernel
theorem dX12_laysTones_61 : decode cX12_laysTones 61 = .ok (.aload_n 0, 1) := by decide +kernel
theorem dX12_laysTones_62 : decode cX12_laysTones 62 = .ok (.getfield 23, 3) := by decide +kernel
theorem dX12_laysTones_65 : decode cX12_laysTones 65 = .ok (.iload_n 1, 1) := by decide +kernel
theorem dX12_laysTones_66 : decode cX12_laysTones 66 = .ok (.iaload, 1) := by decide +kernel
theorem dX12_laysTones_67 : decode cX12_laysTones 67 = .ok (.invokestatic 152, 3) := by decide +kernel
theorem dX12_laysTones_70 : decode cX12_laysTones 70 = .ok (.iinc 1 1, 3) := by decide +kernel
theorem dX12_laysTones_73 : decode cX12_laysTones 73 = .ok (.goto (-27), 3) := by decide +kernel
theorem dX12_laysTones_76 : decode cX12_laysTones 76 = .ok (.iconst 0, 1) := by decide +kernel
theorem dX12_laysTones_77 : decode cX12_laysTones 77 = .ok (.istore_n 1, 1) := by decide +kernel
theorem dX12_laysTones_78 : decode cX12_laysTones 78 = .ok (.iload_n 1, 1) := by decide +kernel
theorem dX12_laysTones_79 : decode cX12_laysTones 79 = .ok (.bipush 8, 2) := by decide +kernel
theorem dX12_laysTones_81 : decode cX12_laysTones 81 = .ok (.if_icmp .ge 94, 3) := by decide +kernel
theorem dX12_laysTones_84 : decode cX12_laysTones 84 = .ok (.aload_n 0, 1) := by decide +kernel
theorem dX12_laysTones_85 : decode cX12_laysTones 85 = .ok (.getfield 33, 3) := by decide +kernel
theorem dX12_laysTones_88 : decode cX12_laysTones 88 = .ok (.iload_n 1, 1) := by decide +kernel
theorem dX12_laysTones_89 : decode cX12_laysTones 89 = .ok (.iload_n 1, 1) := by decide +kernel
theorem dX12_laysTones_90 : decode cX12_laysTones 90 = .ok (.aload_n 0, 1) := by decide +kernel
theorem dX12_laysTones_91 : decode cX12_laysTones 91 = .ok (.getfield 145, 3) := by decide +kernel
theorem dX12_laysTones_94 : decode cX12_laysTones 94 = .ok (.if_icmp .ge 19, 3) := by decide +kernel
theorem dX12_laysTones_97 : decode cX12_laysTones 97 = .ok (.aload_n 0, 1) := by decide +kernel
theorem dX12_laysTones_98 : decode cX12_laysTones 98 = .ok (.getfield 30, 3) := by decide +kernel
theorem dX12_laysTones_101 : decode cX12_laysTones 101 = .ok (.aload_n 0, 1) := by decide +kernel
theorem dX12_laysTones_102 : decode cX12_laysTones 102 = .ok (.getfield 145, 3) := by decide +kernel
theorem dX12_laysTones_105 : decode cX12_laysTones 105 = .ok (.iconst 1, 1) := by decide +kernel
theorem dX12_laysTones_106 : decode cX12_laysTones 106 = .ok (.isub, 1) := by decide +kernel
theorem dX12_laysTones_107 : decode cX12_laysTones 107 = .ok (.iload_n 1, 1) := by decide +kernel
theorem dX12_laysTones_108 : decode cX12_laysTones 108 = .ok (.isub, 1) := by decide +kernel
theorem dX12_laysTones_109 : decode cX12_laysTones 109 = .ok (.laload, 1) := by decide +kernel
theorem dX12_laysTones_110 : decode cX12_laysTones 110 = .ok (.goto 4, 3) := by decide +kernel
theorem dX12_laysTones_113 : decode cX12_laysTones 113 = .ok (.lconst 0, 1) := by decide +kernel
theorem dX12_laysTones_114 : decode cX12_laysTones 114 = .ok (.lastore, 1) := by decide +kernel
theorem dX12_laysTones_115 : decode cX12_laysTones 115 = .ok (.iconst 1, 1) := by decide +kernel
theorem dX12_laysTones_116 : decode cX12_laysTones 116 = .ok (.istore_n 2, 1) := by decide +kernel
theorem dX12_laysTones_117 : decode cX12_laysTones 117 = .ok (.iload_n 2, 1) := by decide +kernel
theorem dX12_laysTones_118 : decode cX12_laysTones 118 = .ok (.aload_n 0, 1) := by decide +kernel
theorem dX12_laysTones_119 : decode cX12_laysTones 119 = .ok (.getfield 145, 3) := by decide +kernel
theorem dX12_laysTones_122 : decode cX12_laysTones 122 = .ok (.if_icmp .gt 47, 3) := by decide +kernel
theorem dX12_laysTones_125 : decode cX12_laysTones 125 = .ok (.iload_n 2, 1) := by decide +kernel
theorem dX12_laysTones_126 : decode cX12_laysTones 126 = .ok (.iload_n 1, 1) := by decide +kernel
theorem dX12_laysTones_127 : decode cX12_laysTones 127 = .ok (.if_icmp .gt 42, 3) := by decide +kernel
theorem dX12_laysTones_130 : decode cX12_laysTones 130 = .ok (.aload_n 0, 1) := by decide +kernel
theorem dX12_laysTones_131 : decode cX12_laysTones 131 = .ok (.getfield 33, 3) := by decide +kernel
theorem dX12_laysTones_134 : decode cX12_laysTones 134 = .ok (.iload_n 1, 1) := by decide +kernel
theorem dX12_laysTones_135 : decode cX12_laysTones 135 = .ok (.aload_n 0, 1) := by decide +kernel
theorem dX12_laysTones_136 : decode cX12_laysTones 136 = .ok (.getfield 33, 3) := by decide +kernel
theorem dX12_laysTones_139 : decode cX12_laysTones 139 = .ok (.iload_n 1, 1) := by decide +kernel
theorem dX12_laysTones_140 : decode cX12_laysTones 140 = .ok (.laload, 1) := by decide +kernel
theorem dX12_laysTones_141 : decode cX12_laysTones 141 = .ok (.aload_n 0, 1) := by decide +kernel
theorem dX12_laysTones_142 : decode cX12_laysTones 142 = .ok (.getfield 26, 3) := by decide +kernel
theorem dX12_laysTones_145 : decode cX12_laysTones 145 = .ok (.aload_n 0, 1) := by decide +kernel
theorem dX12_laysTones_146 : decode cX12_laysTones 146 = .ok (.getfield 145, 3) := by decide +kernel
theorem dX12_laysTones_149 : decode cX12_laysTones 149 = .ok (.iload_n 2, 1) := by decide +kernel
theorem dX12_laysTones_150 : decode cX12_laysTones 150 = .ok (.isub, 1) := by decide +kernel
theorem dX12_laysTones_151 : decode cX12_laysTones 151 = .ok (.laload, 1) := by decide +kernel
theorem dX12_laysTones_152 : decode cX12_laysTones 152 = .ok (.aload_n 0, 1) := by decide +kernel
theorem dX12_laysTones_153 : decode cX12_laysTones 153 = .ok (.getfield 33, 3) := by decide +kernel
theorem dX12_laysTones_156 : decode cX12_laysTones 156 = .ok (.iload_n 1, 1) := by decide +kernel
theorem dX12_laysTones_157 : decode cX12_laysTones 157 = .ok (.iload_n 2, 1) := by decide +kernel
theorem dX12_laysTones_158 : decode cX12_laysTones 158 = .ok (.isub, 1) := by decide +kernel
theorem dX12_laysTones_159 : decode cX12_laysTones 159 = .ok (.laload, 1) := by decide +kernel
theorem dX12_laysTones_160 : decode cX12_laysTones 160 = .ok (.lmul, 1) := by decide +kernel
theorem dX12_laysTones_161 : decode cX12_laysTones 161 = .ok (.lsub, 1) := by decide +kernel
theorem dX12_laysTones_162 : decode cX12_laysTones 162 = .ok (.lastore, 1) := by decide +kernel
theorem dX12_laysTones_163 : decode cX12_laysTones 163 = .ok (.iinc 2 1, 3) := by decide +kernel
theorem dX12_laysTones_166 : decode cX12_laysTones 166 = .ok (.goto (-49), 3) := by decide +kernel
theorem dX12_laysTones_169 : decode cX12_laysTones 169 = .ok (.iinc 1 1, 3) := by decide +kernel
theorem dX12_laysTones_172 : decode cX12_laysTones 172 = .ok (.goto (-94), 3) := by decide +kernel
theorem dX12_laysTones_175 : decode cX12_laysTones 175 = .ok (.return_, 1) := by decide +kernel
theorem dX12_polynomial_0 : decode cX12_polynomial 0 = .ok (.aload_n 0, 1) := by decide +kernel
theorem dX12_polynomial_1 : decode cX12_polynomial 1 = .ok (.getfield 145, 3) := by decide +kernel
theorem dX12_polynomial_4 : decode cX12_polynomial 4 = .ok (.ifCond .eq 28, 3) := by decide +kernel
theorem dX12_polynomial_7 : decode cX12_polynomial 7 = .ok (.iload_n 2, 1) := by decide +kernel
theorem dX12_polynomial_8 : decode cX12_polynomial 8 = .ok (.iconst 0, 1) := by decide +kernel
theorem dX12_polynomial_9 : decode cX12_polynomial 9 = .ok (.iload_n 1, 1) := by decide +kernel
theorem dX12_polynomial_10 : decode cX12_polynomial 10 = .ok (.ifCond .eq 10, 3) := by decide +kernel
theorem dX12_polynomial_13 : decode cX12_polynomial 13 = .ok (.aload_n 0, 1) := by decide +kernel
theorem dX12_polynomial_14 : decode cX12_polynomial 14 = .ok (.getfield 145, 3) := by decide +kernel
theorem dX12_polynomial_17 : decode cX12_polynomial 17 = .ok (.goto 9, 3) := by decide +kernel
theorem dX12_polynomial_20 : decode cX12_polynomial 20 = .ok (.aload_n 0, 1) := by decide +kernel
theorem dX12_polynomial_21 : decode cX12_polynomial 21 = .ok (.getfield 145, 3) := by decide +kernel
theorem dX12_polynomial_24 : decode cX12_polynomial 24 = .ok (.iconst 1, 1) := by decide +kernel
theorem dX12_polynomial_25 : decode cX12_polynomial 25 = .ok (.isub, 1) := by decide +kernel
theorem dX12_polynomial_26 : decode cX12_polynomial 26 = .ok (.invokestatic 134, 3) := by decide +kernel
theorem dX12_polynomial_29 : decode cX12_polynomial 29 = .ok (.ifCond .ne 7, 3) := by decide +kernel
theorem dX12_polynomial_32 : decode cX12_polynomial 32 = .ok (.ldc2_w 156, 3) := by decide +kernel
theorem dX12_polynomial_35 : decode cX12_polynomial 35 = .ok (.lreturn, 1) := by decide +kernel
theorem dX12_polynomial_36 : decode cX12_polynomial 36 = .ok (.aload_n 0, 1) := by decide +kernel
theorem dX12_polynomial_37 : decode cX12_polynomial 37 = .ok (.invokevirtual 158, 3) := by decide +kernel
theorem dX12_polynomial_40 : decode cX12_polynomial 40 = .ok (.iload_n 1, 1) := by decide +kernel
theorem dX12_polynomial_41 : decode cX12_polynomial 41 = .ok (.ifCond .eq 12, 3) := by decide +kernel
theorem dX12_polynomial_44 : decode cX12_polynomial 44 = .ok (.aload_n 0, 1) := by decide +kernel
theorem dX12_polynomial_45 : decode cX12_polynomial 45 = .ok (.getfield 26, 3) := by decide +kernel
theorem dX12_polynomial_48 : decode cX12_polynomial 48 = .ok (.iload_n 2, 1) := by decide +kernel
theorem dX12_polynomial_49 : decode cX12_polynomial 49 = .ok (.laload, 1) := by decide +kernel
theorem dX12_polynomial_50 : decode cX12_polynomial 50 = .ok (.goto 9, 3) := by decide +kernel
theorem dX12_polynomial_53 : decode cX12_polynomial 53 = .ok (.aload_n 0, 1) := by decide +kernel
theorem dX12_polynomial_54 : decode cX12_polynomial 54 = .ok (.getfield 30, 3) := by decide +kernel
theorem dX12_polynomial_57 : decode cX12_polynomial 57 = .ok (.iload_n 2, 1) := by decide +kernel
theorem dX12_polynomial_58 : decode cX12_polynomial 58 = .ok (.laload, 1) := by decide +kernel
theorem dX12_polynomial_59 : decode cX12_polynomial 59 = .ok (.lreturn, 1) := by decide +kernel
theorem dX12_moment_0 : decode cX12_moment 0 = .ok (.aload_n 0, 1) := by decide +kernel
theorem dX12_moment_1 : decode cX12_moment 1 = .ok (.getfield 145, 3) := by decide +kernel
theorem dX12_moment_4 : decode cX12_moment 4 = .ok (.ifCond .eq 13, 3) := by decide +kernel
theorem dX12_moment_7 : decode cX12_moment 7 = .ok (.iload_n 1, 1) := by decide +kernel
theorem dX12_moment_8 : decode cX12_moment 8 = .ok (.iconst 0, 1) := by decide +kernel
theorem dX12_moment_9 : decode cX12_moment 9 = .ok (.bipush 7, 2) := by decide +kernel
theorem dX12_moment_11 : decode cX12_moment 11 = .ok (.invokestatic 134, 3) := by decide +kernel
theorem dX12_moment_14 : decode cX12_moment 14 = .ok (.ifCond .ne 7, 3) := by decide +kernel
theorem dX12_moment_17 : decode cX12_moment 17 = .ok (.ldc2_w 156, 3) := by decide +kernel
theorem dX12_moment_20 : decode cX12_moment 20 = .ok (.lreturn, 1) := by decide +kernel
theorem dX12_moment_21 : decode cX12_moment 21 = .ok (.aload_n 0, 1) := by decide +kernel
theorem dX12_moment_22 : decode cX12_moment 22 = .ok (.invokevirtual 158, 3) := by decide +kernel
theorem dX12_moment_25 : decode cX12_moment 25 = .ok (.aload_n 0, 1) := by decide +kernel
theorem dX12_moment_26 : decode cX12_moment 26 = .ok (.getfield 33, 3) := by decide +kernel
theorem dX12_moment_29 : decode cX12_moment 29 = .ok (.iload_n 1, 1) := by decide +kernel
theorem dX12_moment_30 : decode cX12_moment 30 = .ok (.laload, 1) := by decide +kernel
theorem dX12_moment_31 : decode cX12_moment 31 = .ok (.lreturn, 1) := by decide +kernel
theorem dX12_minor_0 : decode cX12_minor 0 = .ok (.iload_n 1, 1) := by decide +kernel
theorem dX12_minor_1 : decode cX12_minor 1 = .ok (.ifCond .ne 5, 3) := by decide +kernel
theorem dX12_minor_4 : decode cX12_minor 4 = .ok (.lconst 1, 1) := by decide +kernel
theorem dX12_minor_5 : decode cX12_minor 5 = .ok (.lreturn, 1) := by decide +kernel
theorem dX12_minor_6 : decode cX12_minor 6 = .ok (.iload_n 1, 1) := by decide +kernel
theorem dX12_minor_7 : decode cX12_minor 7 = .ok (.iconst 1, 1) := by decide +kernel
theorem dX12_minor_8 : decode cX12_minor 8 = .ok (.if_icmp .ne 12, 3) := by decide +kernel
theorem dX12_minor_11 : decode cX12_minor 11 = .ok (.aload_n 0, 1) := by decide +kernel
theorem dX12_minor_12 : decode cX12_minor 12 = .ok (.iconst 0, 1) := by decide +kernel
theorem dX12_minor_13 : decode cX12_minor 13 = .ok (.iconst 0, 1) := by decide +kernel
theorem dX12_minor_14 : decode cX12_minor 14 = .ok (.iload_n 2, 1) := by decide +kernel
theorem dX12_minor_15 : decode cX12_minor 15 = .ok (.iload_n 3, 1) := by decide +kernel
theorem dX12_minor_16 : decode cX12_minor 16 = .ok (.invokevirtual 161, 3) := by decide +kernel
theorem dX12_minor_19 : decode cX12_minor 19 = .ok (.lreturn, 1) := by decide +kernel
theorem dX12_minor_20 : decode cX12_minor 20 = .ok (.iload_n 1, 1) := by decide +kernel
theorem dX12_minor_21 : decode cX12_minor 21 = .ok (.iconst 2, 1) := by decide +kernel
theorem dX12_minor_22 : decode cX12_minor 22 = .ok (.if_icmp .ne 14, 3) := by decide +kernel
theorem dX12_minor_25 : decode cX12_minor 25 = .ok (.aload_n 0, 1) := by decide +kernel
theorem dX12_minor_26 : decode cX12_minor 26 = .ok (.iconst 0, 1) := by decide +kernel
theorem dX12_minor_27 : decode cX12_minor 27 = .ok (.iconst 1, 1) := by decide +kernel
theorem dX12_minor_28 : decode cX12_minor 28 = .ok (.iconst 0, 1) := by decide +kernel
theorem dX12_minor_29 : decode cX12_minor 29 = .ok (.iconst 1, 1) := by decide +kernel
theorem dX12_minor_30 : decode cX12_minor 30 = .ok (.iload_n 2, 1) := by decide +kernel
theorem dX12_minor_31 : decode cX12_minor 31 = .ok (.iload_n 3, 1) := by decide +kernel
theorem dX12_minor_32 : decode cX12_minor 32 = .ok (.invokevirtual 165, 3) := by decide +kernel
theorem dX12_minor_35 : decode cX12_minor 35 = .ok (.lreturn, 1) := by decide +kernel
theorem dX12_minor_36 : decode cX12_minor 36 = .ok (.iload_n 1, 1) := by decide +kernel
theorem dX12_minor_37 : decode cX12_minor 37 = .ok (.iconst 3, 1) := by decide +kernel
theorem dX12_minor_38 : decode cX12_minor 38 = .ok (.if_icmp .ne 13, 3) := by decide +kernel
theorem dX12_minor_41 : decode cX12_minor 41 = .ok (.aload_n 0, 1) := by decide +kernel
theorem dX12_minor_42 : decode cX12_minor 42 = .ok (.iconst 0, 1) := by decide +kernel
theorem dX12_minor_43 : decode cX12_minor 43 = .ok (.iconst 1, 1) := by decide +kernel
theorem dX12_minor_44 : decode cX12_minor 44 = .ok (.iconst 2, 1) := by decide +kernel
theorem dX12_minor_45 : decode cX12_minor 45 = .ok (.iload_n 2, 1) := by decide +kernel
theorem dX12_minor_46 : decode cX12_minor 46 = .ok (.iload_n 3, 1) := by decide +kernel
theorem dX12_minor_47 : decode cX12_minor 47 = .ok (.invokevirtual 169, 3) := by decide +kernel
theorem dX12_minor_50 : decode cX12_minor 50 = .ok (.lreturn, 1) := by decide +kernel
theorem dX12_minor_51 : decode cX12_minor 51 = .ok (.lconst 0, 1) := by decide +kernel
theorem dX12_minor_52 : decode cX12_minor 52 = .ok (.lstore 4, 2) := by decide +kernel
theorem dX12_minor_54 : decode cX12_minor 54 = .ok (.iconst 0, 1) := by decide +kernel
theorem dX12_minor_55 : decode cX12_minor 55 = .ok (.istore 6, 2) := by decide +kernel
theorem dX12_minor_57 : decode cX12_minor 57 = .ok (.iload 6, 2) := by decide +kernel
theorem dX12_minor_59 : decode cX12_minor 59 = .ok (.iconst 4, 1) := by decide +kernel
theorem dX12_minor_60 : decode cX12_minor 60 = .ok (.if_icmp .ge 80, 3) := by decide +kernel
theorem dX12_minor_63 : decode cX12_minor 63 = .ok (.aload_n 0, 1) := by decide +kernel
theorem dX12_minor_64 : decode cX12_minor 64 = .ok (.iconst 3, 1) := by decide +kernel
theorem dX12_minor_65 : decode cX12_minor 65 = .ok (.iload 6, 2) := by decide +kernel
theorem dX12_minor_67 : decode cX12_minor 67 = .ok (.iload_n 2, 1) := by decide +kernel
theorem dX12_minor_68 : decode cX12_minor 68 = .ok (.iload_n 3, 1) := by decide +kernel
theorem dX12_minor_69 : decode cX12_minor 69 = .ok (.invokevirtual 161, 3) := by decide +kernel
theorem dX12_minor_72 : decode cX12_minor 72 = .ok (.aload_n 0, 1) := by decide +kernel
theorem dX12_minor_73 : decode cX12_minor 73 = .ok (.iload 6, 2) := by decide +kernel
theorem dX12_minor_75 : decode cX12_minor 75 = .ok (.ifCond .ne 7, 3) := by decide +kernel
theorem dX12_minor_78 : decode cX12_minor 78 = .ok (.iconst 1, 1) := by decide +kernel
theorem dX12_minor_79 : decode cX12_minor 79 = .ok (.goto 4, 3) := by decide +kernel
theorem dX12_minor_82 : decode cX12_minor 82 = .ok (.iconst 0, 1) := by decide +kernel
theorem dX12_minor_83 : decode cX12_minor 83 = .ok (.iload 6, 2) := by decide +kernel
theorem dX12_minor_85 : decode cX12_minor 85 = .ok (.iconst 2, 1) := by decide +kernel
theorem dX12_minor_86 : decode cX12_minor 86 = .ok (.if_icmp .ge 7, 3) := by decide +kernel
theorem dX12_minor_89 : decode cX12_minor 89 = .ok (.iconst 2, 1) := by decide +kernel
theorem dX12_minor_90 : decode cX12_minor 90 = .ok (.goto 4, 3) := by decide +kernel
theorem dX12_minor_93 : decode cX12_minor 93 = .ok (.iconst 1, 1) := by decide +kernel
theorem dX12_minor_94 : decode cX12_minor 94 = .ok (.iload 6, 2) := by decide +kernel
theorem dX12_minor_96 : decode cX12_minor 96 = .ok (.iconst 3, 1) := by decide +kernel
theorem dX12_minor_97 : decode cX12_minor 97 = .ok (.if_icmp .ge 7, 3) := by decide +kernel
theorem dX12_minor_100 : decode cX12_minor 100 = .ok (.iconst 3, 1) := by decide +kernel
theorem dX12_minor_101 : decode cX12_minor 101 = .ok (.goto 4, 3) := by decide +kernel
theorem dX12_minor_104 : decode cX12_minor 104 = .ok (.iconst 2, 1) := by decide +kernel
theorem dX12_minor_105 : decode cX12_minor 105 = .ok (.iload_n 2, 1) := by decide +kernel
theorem dX12_minor_106 : decode cX12_minor 106 = .ok (.iload_n 3, 1) := by decide +kernel
theorem dX12_minor_107 : decode cX12_minor 107 = .ok (.invokevirtual 169, 3) := by decide +kernel
theorem dX12_minor_110 : decode cX12_minor 110 = .ok (.lmul, 1) := by decide +kernel
theorem dX12_minor_111 : decode cX12_minor 111 = .ok (.lstore 7, 2) := by decide +kernel
theorem dX12_minor_113 : decode cX12_minor 113 = .ok (.lload 4, 2) := by decide +kernel
theorem dX12_minor_115 : decode cX12_minor 115 = .ok (.iload 6, 2) := by decide +kernel
theorem dX12_minor_117 : decode cX12_minor 117 = .ok (.iconst 2, 1) := by decide +kernel
theorem dX12_minor_118 : decode cX12_minor 118 = .ok (.irem, 1) := by decide +kernel
theorem dX12_minor_119 : decode cX12_minor 119 = .ok (.iconst 1, 1) := by decide +kernel
theorem dX12_minor_120 : decode cX12_minor 120 = .ok (.if_icmp .ne 8, 3) := by decide +kernel
theorem dX12_minor_123 : decode cX12_minor 123 = .ok (.lload 7, 2) := by decide +kernel
theorem dX12_minor_125 : decode cX12_minor 125 = .ok (.goto 6, 3) := by decide +kernel
theorem dX12_minor_128 : decode cX12_minor 128 = .ok (.lload 7, 2) := by decide +kernel
theorem dX12_minor_130 : decode cX12_minor 130 = .ok (.lneg, 1) := by decide +kernel
theorem dX12_minor_131 : decode cX12_minor 131 = .ok (.ladd, 1) := by decide +kernel
theorem dX12_minor_132 : decode cX12_minor 132 = .ok (.lstore 4, 2) := by decide +kernel
theorem dX12_minor_134 : decode cX12_minor 134 = .ok (.iinc 6 1, 3) := by decide +kernel
theorem dX12_minor_137 : decode cX12_minor 137 = .ok (.goto (-80), 3) := by decide +kernel
theorem dX12_minor_140 : decode cX12_minor 140 = .ok (.lload 4, 2) := by decide +kernel
theorem dX12_minor_142 : decode cX12_minor 142 = .ok (.lreturn, 1) := by decide +kernel
theorem dX12_at_0 : decode cX12_at 0 = .ok (.aload_n 0, 1) := by decide +kernel
theorem dX12_at_1 : decode cX12_at 1 = .ok (.getfield 33, 3) := by decide +kernel
theorem dX12_at_4 : decode cX12_at 4 = .ok (.iload_n 1, 1) := by decide +kernel
theorem dX12_at_5 : decode cX12_at 5 = .ok (.iload_n 2, 1) := by decide +kernel
theorem dX12_at_6 : decode cX12_at 6 = .ok (.iload 4, 2) := by decide +kernel
theorem dX12_at_8 : decode cX12_at 8 = .ok (.if_icmp .ge 7, 3) := by decide +kernel
theorem dX12_at_11 : decode cX12_at 11 = .ok (.iload_n 2, 1) := by decide +kernel
theorem dX12_at_12 : decode cX12_at 12 = .ok (.goto 6, 3) := by decide +kernel
theorem dX12_at_15 : decode cX12_at 15 = .ok (.iload_n 2, 1) := by decide +kernel
theorem dX12_at_16 : decode cX12_at 16 = .ok (.iconst 1, 1) := by decide +kernel
theorem dX12_at_17 : decode cX12_at 17 = .ok (.iadd, 1) := by decide +kernel
theorem dX12_at_18 : decode cX12_at 18 = .ok (.iadd, 1) := by decide +kernel
theorem dX12_at_19 : decode cX12_at 19 = .ok (.iload_n 3, 1) := by decide +kernel
theorem dX12_at_20 : decode cX12_at 20 = .ok (.iadd, 1) := by decide +kernel
theorem dX12_at_21 : decode cX12_at 21 = .ok (.laload, 1) := by decide +kernel
theorem dX12_at_22 : decode cX12_at 22 = .ok (.lreturn, 1) := by decide +kernel
theorem dX12_two_0 : decode cX12_two 0 = .ok (.aload_n 0, 1) := by decide +kernel
theorem dX12_two_1 : decode cX12_two 1 = .ok (.iload_n 1, 1) := by decide +kernel
theorem dX12_two_2 : decode cX12_two 2 = .ok (.iload_n 3, 1) := by decide +kernel
theorem dX12_two_3 : decode cX12_two 3 = .ok (.iload 5, 2) := by decide +kernel
theorem dX12_two_5 : decode cX12_two 5 = .ok (.iload 6, 2) := by decide +kernel
theorem dX12_two_7 : decode cX12_two 7 = .ok (.invokevirtual 161, 3) := by decide +kernel
theorem dX12_two_10 : decode cX12_two 10 = .ok (.aload_n 0, 1) := by decide +kernel
theorem dX12_two_11 : decode cX12_two 11 = .ok (.iload_n 2, 1) := by decide +kernel
theorem dX12_two_12 : decode cX12_two 12 = .ok (.iload 4, 2) := by decide +kernel
theorem dX12_two_14 : decode cX12_two 14 = .ok (.iload 5, 2) := by decide +kernel
theorem dX12_two_16 : decode cX12_two 16 = .ok (.iload 6, 2) := by decide +kernel
theorem dX12_two_18 : decode cX12_two 18 = .ok (.invokevirtual 161, 3) := by decide +kernel
theorem dX12_two_21 : decode cX12_two 21 = .ok (.lmul, 1) := by decide +kernel
theorem dX12_two_22 : decode cX12_two 22 = .ok (.aload_n 0, 1) := by decide +kernel
theorem dX12_two_23 : decode cX12_two 23 = .ok (.iload_n 1, 1) := by decide +kernel
theorem dX12_two_24 : decode cX12_two 24 = .ok (.iload 4, 2) := by decide +kernel
theorem dX12_two_26 : decode cX12_two 26 = .ok (.iload 5, 2) := by decide +kernel
theorem dX12_two_28 : decode cX12_two 28 = .ok (.iload 6, 2) := by decide +kernel
theorem dX12_two_30 : decode cX12_two 30 = .ok (.invokevirtual 161, 3) := by decide +kernel
theorem dX12_two_33 : decode cX12_two 33 = .ok (.aload_n 0, 1) := by decide +kernel
theorem dX12_two_34 : decode cX12_two 34 = .ok (.iload_n 2, 1) := by decide +kernel
theorem dX12_two_35 : decode cX12_two 35 = .ok (.iload_n 3, 1) := by decide +kernel
theorem dX12_two_36 : decode cX12_two 36 = .ok (.iload 5, 2) := by decide +kernel
theorem dX12_two_38 : decode cX12_two 38 = .ok (.iload 6, 2) := by decide +kernel
theorem dX12_two_40 : decode cX12_two 40 = .ok (.invokevirtual 161, 3) := by decide +kernel
theorem dX12_two_43 : decode cX12_two 43 = .ok (.lmul, 1) := by decide +kernel
theorem dX12_two_44 : decode cX12_two 44 = .ok (.lsub, 1) := by decide +kernel
theorem dX12_two_45 : decode cX12_two 45 = .ok (.lreturn, 1) := by decide +kernel
theorem dX12_three_0 : decode cX12_three 0 = .ok (.aload_n 0, 1) := by decide +kernel
theorem dX12_three_1 : decode cX12_three 1 = .ok (.iconst 2, 1) := by decide +kernel
theorem dX12_three_2 : decode cX12_three 2 = .ok (.iload_n 1, 1) := by decide +kernel
theorem dX12_three_3 : decode cX12_three 3 = .ok (.iload 4, 2) := by decide +kernel
theorem dX12_three_5 : decode cX12_three 5 = .ok (.iload 5, 2) := by decide +kernel
theorem dX12_three_7 : decode cX12_three 7 = .ok (.invokevirtual 161, 3) := by decide +kernel
theorem dX12_three_10 : decode cX12_three 10 = .ok (.aload_n 0, 1) := by decide +kernel
theorem dX12_three_11 : decode cX12_three 11 = .ok (.iconst 0, 1) := by decide +kernel
theorem dX12_three_12 : decode cX12_three 12 = .ok (.iconst 1, 1) := by decide +kernel
theorem dX12_three_13 : decode cX12_three 13 = .ok (.iload_n 2, 1) := by decide +kernel
theorem dX12_three_14 : decode cX12_three 14 = .ok (.iload_n 3, 1) := by decide +kernel
theorem dX12_three_15 : decode cX12_three 15 = .ok (.iload 4, 2) := by decide +kernel
theorem dX12_three_17 : decode cX12_three 17 = .ok (.iload 5, 2) := by decide +kernel
theorem dX12_three_19 : decode cX12_three 19 = .ok (.invokevirtual 165, 3) := by decide +kernel
theorem dX12_three_22 : decode cX12_three 22 = .ok (.lmul, 1) := by decide +kernel
theorem dX12_three_23 : decode cX12_three 23 = .ok (.aload_n 0, 1) := by decide +kernel
theorem dX12_three_24 : decode cX12_three 24 = .ok (.iconst 2, 1) := by decide +kernel
theorem dX12_three_25 : decode cX12_three 25 = .ok (.iload_n 2, 1) := by decide +kernel
theorem dX12_three_26 : decode cX12_three 26 = .ok (.iload 4, 2) := by decide +kernel
theorem dX12_three_28 : decode cX12_three 28 = .ok (.iload 5, 2) := by decide +kernel
theorem dX12_three_30 : decode cX12_three 30 = .ok (.invokevirtual 161, 3) := by decide +kernel
theorem dX12_three_33 : decode cX12_three 33 = .ok (.aload_n 0, 1) := by decide +kernel
theorem dX12_three_34 : decode cX12_three 34 = .ok (.iconst 0, 1) := by decide +kernel
theorem dX12_three_35 : decode cX12_three 35 = .ok (.iconst 1, 1) := by decide +kernel
theorem dX12_three_36 : decode cX12_three 36 = .ok (.iload_n 1, 1) := by decide +kernel
theorem dX12_three_37 : decode cX12_three 37 = .ok (.iload_n 3, 1) := by decide +kernel
theorem dX12_three_38 : decode cX12_three 38 = .ok (.iload 4, 2) := by decide +kernel
theorem dX12_three_40 : decode cX12_three 40 = .ok (.iload 5, 2) := by decide +kernel
theorem dX12_three_42 : decode cX12_three 42 = .ok (.invokevirtual 165, 3) := by decide +kernel
theorem dX12_three_45 : decode cX12_three 45 = .ok (.lmul, 1) := by decide +kernel
theorem dX12_three_46 : decode cX12_three 46 = .ok (.lsub, 1) := by decide +kernel
theorem dX12_three_47 : decode cX12_three 47 = .ok (.aload_n 0, 1) := by decide +kernel
theorem dX12_three_48 : decode cX12_three 48 = .ok (.iconst 2, 1) := by decide +kernel
theorem dX12_three_49 : decode cX12_three 49 = .ok (.iload_n 3, 1) := by decide +kernel
theorem dX12_three_50 : decode cX12_three 50 = .ok (.iload 4, 2) := by decide +kernel
theorem dX12_three_52 : decode cX12_three 52 = .ok (.iload 5, 2) := by decide +kernel
theorem dX12_three_54 : decode cX12_three 54 = .ok (.invokevirtual 161, 3) := by decide +kernel
theorem dX12_three_57 : decode cX12_three 57 = .ok (.aload_n 0, 1) := by decide +kernel
theorem dX12_three_58 : decode cX12_three 58 = .ok (.iconst 0, 1) := by decide +kernel
theorem dX12_three_59 : decode cX12_three 59 = .ok (.iconst 1, 1) := by decide +kernel
theorem dX12_three_60 : decode cX12_three 60 = .ok (.iload_n 1, 1) := by decide +kernel
theorem dX12_three_61 : decode cX12_three 61 = .ok (.iload_n 2, 1) := by decide +kernel
theorem dX12_three_62 : decode cX12_three 62 = .ok (.iload 4, 2) := by decide +kernel
theorem dX12_three_64 : decode cX12_three 64 = .ok (.iload 5, 2) := by decide +kernel
theorem dX12_three_66 : decode cX12_three 66 = .ok (.invokevirtual 165, 3) := by decide +kernel
theorem dX12_three_69 : decode cX12_three 69 = .ok (.lmul, 1) := by decide +kernel
theorem dX12_three_70 : decode cX12_three 70 = .ok (.ladd, 1) := by decide +kernel
theorem dX12_three_71 : decode cX12_three 71 = .ok (.lreturn, 1) := by decide +kernel
theorem dX12_hankel_0 : decode cX12_hankel 0 = .ok (.aload_n 0, 1) := by decide +kernel
theorem dX12_hankel_1 : decode cX12_hankel 1 = .ok (.iload_n 1, 1) := by decide +kernel
theorem dX12_hankel_2 : decode cX12_hankel 2 = .ok (.iconst 0, 1) := by decide +kernel
theorem dX12_hankel_3 : decode cX12_hankel 3 = .ok (.iload_n 1, 1) := by decide +kernel
theorem dX12_hankel_4 : decode cX12_hankel 4 = .ok (.invokevirtual 173, 3) := by decide +kernel
theorem dX12_hankel_7 : decode cX12_hankel 7 = .ok (.lreturn, 1) := by decide +kernel
theorem dX12_determinant_0 : decode cX12_determinant 0 = .ok (.aload_n 0, 1) := by decide +kernel
theorem dX12_determinant_1 : decode cX12_determinant 1 = .ok (.getfield 145, 3) := by decide +kernel
theorem dX12_determinant_4 : decode cX12_determinant 4 = .ok (.ifCond .eq 21, 3) := by decide +kernel
theorem dX12_determinant_7 : decode cX12_determinant 7 = .ok (.iload_n 1, 1) := by decide +kernel
theorem dX12_determinant_8 : decode cX12_determinant 8 = .ok (.iconst 0, 1) := by decide +kernel
theorem dX12_determinant_9 : decode cX12_determinant 9 = .ok (.iconst 4, 1) := by decide +kernel
theorem dX12_determinant_10 : decode cX12_determinant 10 = .ok (.invokestatic 134, 3) := by decide +kernel
theorem dX12_determinant_13 : decode cX12_determinant 13 = .ok (.ifCond .eq 12, 3) := by decide +kernel
theorem dX12_determinant_16 : decode cX12_determinant 16 = .ok (.iload_n 2, 1) := by decide +kernel
theorem dX12_determinant_17 : decode cX12_determinant 17 = .ok (.iconst 0, 1) := by decide +kernel
theorem dX12_determinant_18 : decode cX12_determinant 18 = .ok (.iconst 1, 1) := by decide +kernel
theorem dX12_determinant_19 : decode cX12_determinant 19 = .ok (.invokestatic 134, 3) := by decide +kernel
theorem dX12_determinant_22 : decode cX12_determinant 22 = .ok (.ifCond .ne 7, 3) := by decide +kernel
theorem dX12_determinant_25 : decode cX12_determinant 25 = .ok (.ldc2_w 156, 3) := by decide +kernel
theorem dX12_determinant_28 : decode cX12_determinant 28 = .ok (.lreturn, 1) := by decide +kernel
theorem dX12_determinant_29 : decode cX12_determinant 29 = .ok (.aload_n 0, 1) := by decide +kernel
theorem dX12_determinant_30 : decode cX12_determinant 30 = .ok (.invokevirtual 158, 3) := by decide +kernel
theorem dX12_determinant_33 : decode cX12_determinant 33 = .ok (.aload_n 0, 1) := by decide +kernel
theorem dX12_determinant_34 : decode cX12_determinant 34 = .ok (.iload_n 1, 1) := by decide +kernel
theorem dX12_determinant_35 : decode cX12_determinant 35 = .ok (.iload_n 2, 1) := by decide +kernel
theorem dX12_determinant_36 : decode cX12_determinant 36 = .ok (.iload_n 1, 1) := by decide +kernel
theorem dX12_determinant_37 : decode cX12_determinant 37 = .ok (.invokevirtual 173, 3) := by decide +kernel
theorem dX12_determinant_40 : decode cX12_determinant 40 = .ok (.lreturn, 1) := by decide +kernel
theorem dX12_reduces_0 : decode cX12_reduces 0 = .ok (.aload_n 0, 1) := by decide +kernel
theorem dX12_reduces_1 : decode cX12_reduces 1 = .ok (.getfield 177, 3) := by decide +kernel
theorem dX12_reduces_4 : decode cX12_reduces 4 = .ok (.aload_n 0, 1) := by decide +kernel
theorem dX12_reduces_5 : decode cX12_reduces 5 = .ok (.getfield 181, 3) := by decide +kernel
theorem dX12_reduces_8 : decode cX12_reduces 8 = .ok (.invokestatic 184, 3) := by decide +kernel
theorem dX12_reduces_11 : decode cX12_reduces 11 = .ok (.lstore_n 1, 1) := by decide +kernel
theorem dX12_reduces_12 : decode cX12_reduces 12 = .ok (.aload_n 0, 1) := by decide +kernel
theorem dX12_reduces_13 : decode cX12_reduces 13 = .ok (.getfield 181, 3) := by decide +kernel
theorem dX12_reduces_16 : decode cX12_reduces 16 = .ok (.lconst 0, 1) := by decide +kernel
theorem dX12_reduces_17 : decode cX12_reduces 17 = .ok (.lcmp, 1) := by decide +kernel
theorem dX12_reduces_18 : decode cX12_reduces 18 = .ok (.ifCond .ge 8, 3) := by decide +kernel
theorem dX12_reduces_21 : decode cX12_reduces 21 = .ok (.lload_n 1, 1) := by decide +kernel
theorem dX12_reduces_22 : decode cX12_reduces 22 = .ok (.lneg, 1) := by decide +kernel
theorem dX12_reduces_23 : decode cX12_reduces 23 = .ok (.goto 4, 3) := by decide +kernel
theorem dX12_reduces_26 : decode cX12_reduces 26 = .ok (.lload_n 1, 1) := by decide +kernel
theorem dX12_reduces_27 : decode cX12_reduces 27 = .ok (.lstore_n 1, 1) := by decide +kernel
theorem dX12_reduces_28 : decode cX12_reduces 28 = .ok (.aload_n 0, 1) := by decide +kernel
theorem dX12_reduces_29 : decode cX12_reduces 29 = .ok (.aload_n 0, 1) := by decide +kernel
theorem dX12_reduces_30 : decode cX12_reduces 30 = .ok (.getfield 177, 3) := by decide +kernel
theorem dX12_reduces_33 : decode cX12_reduces 33 = .ok (.lload_n 1, 1) := by decide +kernel
theorem dX12_reduces_34 : decode cX12_reduces 34 = .ok (.ldiv, 1) := by decide +kernel
theorem dX12_reduces_35 : decode cX12_reduces 35 = .ok (.putfield 177, 3) := by decide +kernel
theorem dX12_reduces_38 : decode cX12_reduces 38 = .ok (.aload_n 0, 1) := by decide +kernel
theorem dX12_reduces_39 : decode cX12_reduces 39 = .ok (.aload_n 0, 1) := by decide +kernel
theorem dX12_reduces_40 : decode cX12_reduces 40 = .ok (.getfield 181, 3) := by decide +kernel
theorem dX12_reduces_43 : decode cX12_reduces 43 = .ok (.lload_n 1, 1) := by decide +kernel
theorem dX12_reduces_44 : decode cX12_reduces 44 = .ok (.ldiv, 1) := by decide +kernel
theorem dX12_reduces_45 : decode cX12_reduces 45 = .ok (.putfield 181, 3) := by decide +kernel
theorem dX12_reduces_48 : decode cX12_reduces 48 = .ok (.return_, 1) := by decide +kernel
theorem dX12_sets_0 : decode cX12_sets 0 = .ok (.aload_n 0, 1) := by decide +kernel
theorem dX12_sets_1 : decode cX12_sets 1 = .ok (.lload_n 1, 1) := by decide +kernel
theorem dX12_sets_2 : decode cX12_sets 2 = .ok (.putfield 177, 3) := by decide +kernel
theorem dX12_sets_5 : decode cX12_sets 5 = .ok (.aload_n 0, 1) := by decide +kernel
theorem dX12_sets_6 : decode cX12_sets 6 = .ok (.lload_n 3, 1) := by decide +kernel
theorem dX12_sets_7 : decode cX12_sets 7 = .ok (.putfield 181, 3) := by decide +kernel
theorem dX12_sets_10 : decode cX12_sets 10 = .ok (.aload_n 0, 1) := by decide +kernel
theorem dX12_sets_11 : decode cX12_sets 11 = .ok (.invokevirtual 188, 3) := by decide +kernel
theorem dX12_sets_14 : decode cX12_sets 14 = .ok (.return_, 1) := by decide +kernel
theorem dX12_adds_0 : decode cX12_adds 0 = .ok (.lload_n 1, 1) := by decide +kernel
theorem dX12_adds_1 : decode cX12_adds 1 = .ok (.lload_n 3, 1) := by decide +kernel
theorem dX12_adds_2 : decode cX12_adds 2 = .ok (.invokestatic 184, 3) := by decide +kernel
theorem dX12_adds_5 : decode cX12_adds 5 = .ok (.lstore 5, 2) := by decide +kernel
theorem dX12_adds_7 : decode cX12_adds 7 = .ok (.lload_n 1, 1) := by decide +kernel
theorem dX12_adds_8 : decode cX12_adds 8 = .ok (.lload 5, 2) := by decide +kernel
theorem dX12_adds_10 : decode cX12_adds 10 = .ok (.ldiv, 1) := by decide +kernel
theorem dX12_adds_11 : decode cX12_adds 11 = .ok (.lstore 7, 2) := by decide +kernel
theorem dX12_adds_13 : decode cX12_adds 13 = .ok (.lload_n 3, 1) := by decide +kernel
theorem dX12_adds_14 : decode cX12_adds 14 = .ok (.lload 5, 2) := by decide +kernel
theorem dX12_adds_16 : decode cX12_adds 16 = .ok (.ldiv, 1) := by decide +kernel
theorem dX12_adds_17 : decode cX12_adds 17 = .ok (.lstore 9, 2) := by decide +kernel
theorem dX12_adds_19 : decode cX12_adds 19 = .ok (.aload_n 0, 1) := by decide +kernel
theorem dX12_adds_20 : decode cX12_adds 20 = .ok (.getfield 181, 3) := by decide +kernel
theorem dX12_adds_23 : decode cX12_adds 23 = .ok (.lload 9, 2) := by decide +kernel
theorem dX12_adds_25 : decode cX12_adds 25 = .ok (.invokestatic 184, 3) := by decide +kernel
theorem dX12_adds_28 : decode cX12_adds 28 = .ok (.lstore 11, 2) := by decide +kernel
theorem dX12_adds_30 : decode cX12_adds 30 = .ok (.aload_n 0, 1) := by decide +kernel
theorem dX12_adds_31 : decode cX12_adds 31 = .ok (.aload_n 0, 1) := by decide +kernel
theorem dX12_adds_32 : decode cX12_adds 32 = .ok (.getfield 177, 3) := by decide +kernel
theorem dX12_adds_35 : decode cX12_adds 35 = .ok (.lload 9, 2) := by decide +kernel
theorem dX12_adds_37 : decode cX12_adds 37 = .ok (.lload 11, 2) := by decide +kernel
theorem dX12_adds_39 : decode cX12_adds 39 = .ok (.ldiv, 1) := by decide +kernel
theorem dX12_adds_40 : decode cX12_adds 40 = .ok (.lmul, 1) := by decide +kernel
theorem dX12_adds_41 : decode cX12_adds 41 = .ok (.lload 7, 2) := by decide +kernel
theorem dX12_adds_43 : decode cX12_adds 43 = .ok (.aload_n 0, 1) := by decide +kernel
theorem dX12_adds_44 : decode cX12_adds 44 = .ok (.getfield 181, 3) := by decide +kernel
theorem dX12_adds_47 : decode cX12_adds 47 = .ok (.lload 11, 2) := by decide +kernel
theorem dX12_adds_49 : decode cX12_adds 49 = .ok (.ldiv, 1) := by decide +kernel
theorem dX12_adds_50 : decode cX12_adds 50 = .ok (.lmul, 1) := by decide +kernel
theorem dX12_adds_51 : decode cX12_adds 51 = .ok (.ladd, 1) := by decide +kernel
theorem dX12_adds_52 : decode cX12_adds 52 = .ok (.putfield 177, 3) := by decide +kernel
theorem dX12_adds_55 : decode cX12_adds 55 = .ok (.aload_n 0, 1) := by decide +kernel
theorem dX12_adds_56 : decode cX12_adds 56 = .ok (.aload_n 0, 1) := by decide +kernel
theorem dX12_adds_57 : decode cX12_adds 57 = .ok (.getfield 181, 3) := by decide +kernel
theorem dX12_adds_60 : decode cX12_adds 60 = .ok (.lload 11, 2) := by decide +kernel
theorem dX12_adds_62 : decode cX12_adds 62 = .ok (.ldiv, 1) := by decide +kernel
theorem dX12_adds_63 : decode cX12_adds 63 = .ok (.lload 9, 2) := by decide +kernel
theorem dX12_adds_65 : decode cX12_adds 65 = .ok (.lmul, 1) := by decide +kernel
theorem dX12_adds_66 : decode cX12_adds 66 = .ok (.putfield 181, 3) := by decide +kernel
theorem dX12_adds_69 : decode cX12_adds 69 = .ok (.aload_n 0, 1) := by decide +kernel
theorem dX12_adds_70 : decode cX12_adds 70 = .ok (.invokevirtual 188, 3) := by decide +kernel
theorem dX12_adds_73 : decode cX12_adds 73 = .ok (.return_, 1) := by decide +kernel
theorem dX12_multiplies_0 : decode cX12_multiplies 0 = .ok (.lload_n 1, 1) := by decide +kernel
theorem dX12_multiplies_1 : decode cX12_multiplies 1 = .ok (.lload_n 3, 1) := by decide +kernel
theorem dX12_multiplies_2 : decode cX12_multiplies 2 = .ok (.invokestatic 184, 3) := by decide +kernel
theorem dX12_multiplies_5 : decode cX12_multiplies 5 = .ok (.lstore 5, 2) := by decide +kernel
theorem dX12_multiplies_7 : decode cX12_multiplies 7 = .ok (.lload_n 1, 1) := by decide +kernel
theorem dX12_multiplies_8 : decode cX12_multiplies 8 = .ok (.lload 5, 2) := by decide +kernel
theorem dX12_multiplies_10 : decode cX12_multiplies 10 = .ok (.ldiv, 1) := by decide +kernel
theorem dX12_multiplies_11 : decode cX12_multiplies 11 = .ok (.lstore 7, 2) := by decide +kernel
theorem dX12_multiplies_13 : decode cX12_multiplies 13 = .ok (.lload_n 3, 1) := by decide +kernel
theorem dX12_multiplies_14 : decode cX12_multiplies 14 = .ok (.lload 5, 2) := by decide +kernel
theorem dX12_multiplies_16 : decode cX12_multiplies 16 = .ok (.ldiv, 1) := by decide +kernel
theorem dX12_multiplies_17 : decode cX12_multiplies 17 = .ok (.lstore 9, 2) := by decide +kernel
theorem dX12_multiplies_19 : decode cX12_multiplies 19 = .ok (.aload_n 0, 1) := by decide +kernel
theorem dX12_multiplies_20 : decode cX12_multiplies 20 = .ok (.getfield 177, 3) := by decide +kernel
theorem dX12_multiplies_23 : decode cX12_multiplies 23 = .ok (.lload 9, 2) := by decide +kernel
theorem dX12_multiplies_25 : decode cX12_multiplies 25 = .ok (.invokestatic 184, 3) := by decide +kernel
theorem dX12_multiplies_28 : decode cX12_multiplies 28 = .ok (.lstore 11, 2) := by decide +kernel
theorem dX12_multiplies_30 : decode cX12_multiplies 30 = .ok (.lload 7, 2) := by decide +kernel
theorem dX12_multiplies_32 : decode cX12_multiplies 32 = .ok (.aload_n 0, 1) := by decide +kernel
theorem dX12_multiplies_33 : decode cX12_multiplies 33 = .ok (.getfield 181, 3) := by decide +kernel
theorem dX12_multiplies_36 : decode cX12_multiplies 36 = .ok (.invokestatic 184, 3) := by decide +kernel
theorem dX12_multiplies_39 : decode cX12_multiplies 39 = .ok (.lstore 13, 2) := by decide +kernel
theorem dX12_multiplies_41 : decode cX12_multiplies 41 = .ok (.aload_n 0, 1) := by decide +kernel
theorem dX12_multiplies_42 : decode cX12_multiplies 42 = .ok (.aload_n 0, 1) := by decide +kernel
theorem dX12_multiplies_43 : decode cX12_multiplies 43 = .ok (.getfield 177, 3) := by decide +kernel
theorem dX12_multiplies_46 : decode cX12_multiplies 46 = .ok (.lload 11, 2) := by decide +kernel
theorem dX12_multiplies_48 : decode cX12_multiplies 48 = .ok (.ldiv, 1) := by decide +kernel
theorem dX12_multiplies_49 : decode cX12_multiplies 49 = .ok (.lload 7, 2) := by decide +kernel
theorem dX12_multiplies_51 : decode cX12_multiplies 51 = .ok (.lload 13, 2) := by decide +kernel
theorem dX12_multiplies_53 : decode cX12_multiplies 53 = .ok (.ldiv, 1) := by decide +kernel
theorem dX12_multiplies_54 : decode cX12_multiplies 54 = .ok (.lmul, 1) := by decide +kernel
theorem dX12_multiplies_55 : decode cX12_multiplies 55 = .ok (.putfield 177, 3) := by decide +kernel
theorem dX12_multiplies_58 : decode cX12_multiplies 58 = .ok (.aload_n 0, 1) := by decide +kernel
theorem dX12_multiplies_59 : decode cX12_multiplies 59 = .ok (.aload_n 0, 1) := by decide +kernel
theorem dX12_multiplies_60 : decode cX12_multiplies 60 = .ok (.getfield 181, 3) := by decide +kernel
theorem dX12_multiplies_63 : decode cX12_multiplies 63 = .ok (.lload 13, 2) := by decide +kernel
theorem dX12_multiplies_65 : decode cX12_multiplies 65 = .ok (.ldiv, 1) := by decide +kernel
theorem dX12_multiplies_66 : decode cX12_multiplies 66 = .ok (.lload 9, 2) := by decide +kernel
theorem dX12_multiplies_68 : decode cX12_multiplies 68 = .ok (.lload 11, 2) := by decide +kernel
theorem dX12_multiplies_70 : decode cX12_multiplies 70 = .ok (.ldiv, 1) := by decide +kernel
theorem dX12_multiplies_71 : decode cX12_multiplies 71 = .ok (.lmul, 1) := by decide +kernel
theorem dX12_multiplies_72 : decode cX12_multiplies 72 = .ok (.putfield 181, 3) := by decide +kernel
theorem dX12_multiplies_75 : decode cX12_multiplies 75 = .ok (.aload_n 0, 1) := by decide +kernel
theorem dX12_multiplies_76 : decode cX12_multiplies 76 = .ok (.invokevirtual 188, 3) := by decide +kernel
theorem dX12_multiplies_79 : decode cX12_multiplies 79 = .ok (.return_, 1) := by decide +kernel
theorem dX12_told_0 : decode cX12_told 0 = .ok (.iload_n 1, 1) := by decide +kernel
theorem dX12_told_1 : decode cX12_told 1 = .ok (.ifCond .ne 10, 3) := by decide +kernel
theorem dX12_told_4 : decode cX12_told 4 = .ok (.aload_n 0, 1) := by decide +kernel
theorem dX12_told_5 : decode cX12_told 5 = .ok (.getfield 177, 3) := by decide +kernel
theorem dX12_told_8 : decode cX12_told 8 = .ok (.goto 7, 3) := by decide +kernel
theorem dX12_told_11 : decode cX12_told 11 = .ok (.aload_n 0, 1) := by decide +kernel
theorem dX12_told_12 : decode cX12_told 12 = .ok (.getfield 181, 3) := by decide +kernel
theorem dX12_told_15 : decode cX12_told 15 = .ok (.lreturn, 1) := by decide +kernel
theorem dX12_weight_0 : decode cX12_weight 0 = .ok (.aload_n 0, 1) := by decide +kernel
theorem dX12_weight_1 : decode cX12_weight 1 = .ok (.getfield 145, 3) := by decide +kernel
theorem dX12_weight_4 : decode cX12_weight 4 = .ok (.ifCond .eq 26, 3) := by decide +kernel
theorem dX12_weight_7 : decode cX12_weight 7 = .ok (.iload_n 1, 1) := by decide +kernel
theorem dX12_weight_8 : decode cX12_weight 8 = .ok (.iconst 0, 1) := by decide +kernel
theorem dX12_weight_9 : decode cX12_weight 9 = .ok (.aload_n 0, 1) := by decide +kernel
theorem dX12_weight_10 : decode cX12_weight 10 = .ok (.getfield 145, 3) := by decide +kernel
theorem dX12_weight_13 : decode cX12_weight 13 = .ok (.iconst 1, 1) := by decide +kernel
theorem dX12_weight_14 : decode cX12_weight 14 = .ok (.isub, 1) := by decide +kernel
theorem dX12_weight_15 : decode cX12_weight 15 = .ok (.invokestatic 134, 3) := by decide +kernel
theorem dX12_weight_18 : decode cX12_weight 18 = .ok (.ifCond .eq 12, 3) := by decide +kernel
theorem dX12_weight_21 : decode cX12_weight 21 = .ok (.iload_n 2, 1) := by decide +kernel
theorem dX12_weight_22 : decode cX12_weight 22 = .ok (.iconst 0, 1) := by decide +kernel
theorem dX12_weight_23 : decode cX12_weight 23 = .ok (.iconst 1, 1) := by decide +kernel
theorem dX12_weight_24 : decode cX12_weight 24 = .ok (.invokestatic 134, 3) := by decide +kernel
theorem dX12_weight_27 : decode cX12_weight 27 = .ok (.ifCond .ne 7, 3) := by decide +kernel
theorem dX12_weight_30 : decode cX12_weight 30 = .ok (.ldc2_w 156, 3) := by decide +kernel
theorem dX12_weight_33 : decode cX12_weight 33 = .ok (.lreturn, 1) := by decide +kernel
theorem dX12_weight_34 : decode cX12_weight 34 = .ok (.lconst 1, 1) := by decide +kernel
theorem dX12_weight_35 : decode cX12_weight 35 = .ok (.lstore_n 3, 1) := by decide +kernel
theorem dX12_weight_36 : decode cX12_weight 36 = .ok (.lconst 1, 1) := by decide +kernel
theorem dX12_weight_37 : decode cX12_weight 37 = .ok (.lstore 5, 2) := by decide +kernel
theorem dX12_weight_39 : decode cX12_weight 39 = .ok (.iconst 0, 1) := by decide +kernel
theorem dX12_weight_40 : decode cX12_weight 40 = .ok (.istore 7, 2) := by decide +kernel
theorem dX12_weight_42 : decode cX12_weight 42 = .ok (.iload 7, 2) := by decide +kernel
theorem dX12_weight_44 : decode cX12_weight 44 = .ok (.aload_n 0, 1) := by decide +kernel
theorem dX12_weight_45 : decode cX12_weight 45 = .ok (.getfield 145, 3) := by decide +kernel
theorem dX12_weight_48 : decode cX12_weight 48 = .ok (.iconst 1, 1) := by decide +kernel
theorem dX12_weight_49 : decode cX12_weight 49 = .ok (.isub, 1) := by decide +kernel
theorem dX12_weight_50 : decode cX12_weight 50 = .ok (.if_icmp .ge 27, 3) := by decide +kernel
theorem dX12_weight_53 : decode cX12_weight 53 = .ok (.lload_n 3, 1) := by decide +kernel
theorem dX12_weight_54 : decode cX12_weight 54 = .ok (.aload_n 0, 1) := by decide +kernel
theorem dX12_weight_55 : decode cX12_weight 55 = .ok (.getfield 20, 3) := by decide +kernel
theorem dX12_weight_58 : decode cX12_weight 58 = .ok (.iload_n 1, 1) := by decide +kernel
theorem dX12_weight_59 : decode cX12_weight 59 = .ok (.iaload, 1) := by decide +kernel
theorem dX12_weight_60 : decode cX12_weight 60 = .ok (.aload_n 0, 1) := by decide +kernel
theorem dX12_weight_61 : decode cX12_weight 61 = .ok (.getfield 23, 3) := by decide +kernel
theorem dX12_weight_64 : decode cX12_weight 64 = .ok (.iload 7, 2) := by decide +kernel
theorem dX12_weight_66 : decode cX12_weight 66 = .ok (.iaload, 1) := by decide +kernel
theorem dX12_weight_67 : decode cX12_weight 67 = .ok (.isub, 1) := by decide +kernel
theorem dX12_weight_68 : decode cX12_weight 68 = .ok (.i2l, 1) := by decide +kernel
theorem dX12_weight_69 : decode cX12_weight 69 = .ok (.lmul, 1) := by decide +kernel
theorem dX12_weight_70 : decode cX12_weight 70 = .ok (.lstore_n 3, 1) := by decide +kernel
theorem dX12_weight_71 : decode cX12_weight 71 = .ok (.iinc 7 1, 3) := by decide +kernel
theorem dX12_weight_74 : decode cX12_weight 74 = .ok (.goto (-32), 3) := by decide +kernel
theorem dX12_weight_77 : decode cX12_weight 77 = .ok (.iconst 0, 1) := by decide +kernel
theorem dX12_weight_78 : decode cX12_weight 78 = .ok (.istore 7, 2) := by decide +kernel
theorem dX12_weight_80 : decode cX12_weight 80 = .ok (.iload 7, 2) := by decide +kernel
theorem dX12_weight_82 : decode cX12_weight 82 = .ok (.aload_n 0, 1) := by decide +kernel
theorem dX12_weight_83 : decode cX12_weight 83 = .ok (.getfield 145, 3) := by decide +kernel
theorem dX12_weight_86 : decode cX12_weight 86 = .ok (.if_icmp .ge 40, 3) := by decide +kernel
theorem dX12_weight_89 : decode cX12_weight 89 = .ok (.iload 7, 2) := by decide +kernel
theorem dX12_weight_91 : decode cX12_weight 91 = .ok (.iload_n 1, 1) := by decide +kernel
theorem dX12_weight_92 : decode cX12_weight 92 = .ok (.if_icmp .ne 8, 3) := by decide +kernel
theorem dX12_weight_95 : decode cX12_weight 95 = .ok (.lload 5, 2) := by decide +kernel
theorem dX12_weight_97 : decode cX12_weight 97 = .ok (.goto 21, 3) := by decide +kernel
theorem dX12_weight_100 : decode cX12_weight 100 = .ok (.lload 5, 2) := by decide +kernel
theorem dX12_weight_102 : decode cX12_weight 102 = .ok (.aload_n 0, 1) := by decide +kernel
theorem dX12_weight_103 : decode cX12_weight 103 = .ok (.getfield 20, 3) := by decide +kernel
theorem dX12_weight_106 : decode cX12_weight 106 = .ok (.iload_n 1, 1) := by decide +kernel
theorem dX12_weight_107 : decode cX12_weight 107 = .ok (.iaload, 1) := by decide +kernel
theorem dX12_weight_108 : decode cX12_weight 108 = .ok (.aload_n 0, 1) := by decide +kernel
theorem dX12_weight_109 : decode cX12_weight 109 = .ok (.getfield 20, 3) := by decide +kernel
theorem dX12_weight_112 : decode cX12_weight 112 = .ok (.iload 7, 2) := by decide +kernel
theorem dX12_weight_114 : decode cX12_weight 114 = .ok (.iaload, 1) := by decide +kernel
theorem dX12_weight_115 : decode cX12_weight 115 = .ok (.isub, 1) := by decide +kernel
theorem dX12_weight_116 : decode cX12_weight 116 = .ok (.i2l, 1) := by decide +kernel
theorem dX12_weight_117 : decode cX12_weight 117 = .ok (.lmul, 1) := by decide +kernel
theorem dX12_weight_118 : decode cX12_weight 118 = .ok (.lstore 5, 2) := by decide +kernel
theorem dX12_weight_120 : decode cX12_weight 120 = .ok (.iinc 7 1, 3) := by decide +kernel
theorem dX12_weight_123 : decode cX12_weight 123 = .ok (.goto (-43), 3) := by decide +kernel
theorem dX12_weight_126 : decode cX12_weight 126 = .ok (.aload_n 0, 1) := by decide +kernel
theorem dX12_weight_127 : decode cX12_weight 127 = .ok (.lload_n 3, 1) := by decide +kernel
theorem dX12_weight_128 : decode cX12_weight 128 = .ok (.lload 5, 2) := by decide +kernel
theorem dX12_weight_130 : decode cX12_weight 130 = .ok (.invokevirtual 191, 3) := by decide +kernel
theorem dX12_weight_133 : decode cX12_weight 133 = .ok (.aload_n 0, 1) := by decide +kernel
theorem dX12_weight_134 : decode cX12_weight 134 = .ok (.iload_n 2, 1) := by decide +kernel
theorem dX12_weight_135 : decode cX12_weight 135 = .ok (.invokevirtual 195, 3) := by decide +kernel
theorem dX12_weight_138 : decode cX12_weight 138 = .ok (.lreturn, 1) := by decide +kernel
theorem dX12_sumTo_0 : decode cX12_sumTo 0 = .ok (.iload_n 1, 1) := by decide +kernel
theorem dX12_sumTo_1 : decode cX12_sumTo 1 = .ok (.aload_n 0, 1) := by decide +kernel
theorem dX12_sumTo_2 : decode cX12_sumTo 2 = .ok (.getfield 145, 3) := by decide +kernel
theorem dX12_sumTo_5 : decode cX12_sumTo 5 = .ok (.if_icmp .ne 23, 3) := by decide +kernel
theorem dX12_sumTo_8 : decode cX12_sumTo 8 = .ok (.aload_n 0, 1) := by decide +kernel
theorem dX12_sumTo_9 : decode cX12_sumTo 9 = .ok (.aload_n 0, 1) := by decide +kernel
theorem dX12_sumTo_10 : decode cX12_sumTo 10 = .ok (.getfield 26, 3) := by decide +kernel
theorem dX12_sumTo_13 : decode cX12_sumTo 13 = .ok (.aload_n 0, 1) := by decide +kernel
theorem dX12_sumTo_14 : decode cX12_sumTo 14 = .ok (.getfield 145, 3) := by decide +kernel
theorem dX12_sumTo_17 : decode cX12_sumTo 17 = .ok (.iconst 1, 1) := by decide +kernel
theorem dX12_sumTo_18 : decode cX12_sumTo 18 = .ok (.isub, 1) := by decide +kernel
theorem dX12_sumTo_19 : decode cX12_sumTo 19 = .ok (.laload, 1) := by decide +kernel
theorem dX12_sumTo_20 : decode cX12_sumTo 20 = .ok (.lneg, 1) := by decide +kernel
theorem dX12_sumTo_21 : decode cX12_sumTo 21 = .ok (.lconst 1, 1) := by decide +kernel
theorem dX12_sumTo_22 : decode cX12_sumTo 22 = .ok (.invokevirtual 191, 3) := by decide +kernel
theorem dX12_sumTo_25 : decode cX12_sumTo 25 = .ok (.goto 34, 3) := by decide +kernel
theorem dX12_sumTo_28 : decode cX12_sumTo 28 = .ok (.iload_n 1, 1) := by decide +kernel
theorem dX12_sumTo_29 : decode cX12_sumTo 29 = .ok (.ifCond .ne 12, 3) := by decide +kernel
theorem dX12_sumTo_32 : decode cX12_sumTo 32 = .ok (.aload_n 0, 1) := by decide +kernel
theorem dX12_sumTo_33 : decode cX12_sumTo 33 = .ok (.lconst 0, 1) := by decide +kernel
theorem dX12_sumTo_34 : decode cX12_sumTo 34 = .ok (.lconst 1, 1) := by decide +kernel
theorem dX12_sumTo_35 : decode cX12_sumTo 35 = .ok (.invokevirtual 191, 3) := by decide +kernel
theorem dX12_sumTo_38 : decode cX12_sumTo 38 = .ok (.goto 21, 3) := by decide +kernel
theorem dX12_sumTo_41 : decode cX12_sumTo 41 = .ok (.aload_n 0, 1) := by decide +kernel
theorem dX12_sumTo_42 : decode cX12_sumTo 42 = .ok (.aload_n 0, 1) := by decide +kernel
theorem dX12_sumTo_43 : decode cX12_sumTo 43 = .ok (.iload_n 1, 1) := by decide +kernel
theorem dX12_sumTo_44 : decode cX12_sumTo 44 = .ok (.iconst 0, 1) := by decide +kernel
theorem dX12_sumTo_45 : decode cX12_sumTo 45 = .ok (.iload_n 1, 1) := by decide +kernel
theorem dX12_sumTo_46 : decode cX12_sumTo 46 = .ok (.iconst 1, 1) := by decide +kernel
theorem dX12_sumTo_47 : decode cX12_sumTo 47 = .ok (.isub, 1) := by decide +kernel
theorem dX12_sumTo_48 : decode cX12_sumTo 48 = .ok (.invokevirtual 173, 3) := by decide +kernel
theorem dX12_sumTo_51 : decode cX12_sumTo 51 = .ok (.aload_n 0, 1) := by decide +kernel
theorem dX12_sumTo_52 : decode cX12_sumTo 52 = .ok (.iload_n 1, 1) := by decide +kernel
theorem dX12_sumTo_53 : decode cX12_sumTo 53 = .ok (.invokevirtual 199, 3) := by decide +kernel
theorem dX12_sumTo_56 : decode cX12_sumTo 56 = .ok (.invokevirtual 191, 3) := by decide +kernel
theorem dX12_sumTo_59 : decode cX12_sumTo 59 = .ok (.return_, 1) := by decide +kernel
theorem dX12_laysA_0 : decode cX12_laysA 0 = .ok (.aload_n 0, 1) := by decide +kernel
theorem dX12_laysA_1 : decode cX12_laysA 1 = .ok (.iload_n 1, 1) := by decide +kernel
theorem dX12_laysA_2 : decode cX12_laysA 2 = .ok (.invokevirtual 202, 3) := by decide +kernel
theorem dX12_laysA_5 : decode cX12_laysA 5 = .ok (.aload_n 0, 1) := by decide +kernel
theorem dX12_laysA_6 : decode cX12_laysA 6 = .ok (.getfield 177, 3) := by decide +kernel
theorem dX12_laysA_9 : decode cX12_laysA 9 = .ok (.lstore_n 2, 1) := by decide +kernel
theorem dX12_laysA_10 : decode cX12_laysA 10 = .ok (.aload_n 0, 1) := by decide +kernel
theorem dX12_laysA_11 : decode cX12_laysA 11 = .ok (.getfield 181, 3) := by decide +kernel
theorem dX12_laysA_14 : decode cX12_laysA 14 = .ok (.lstore 4, 2) := by decide +kernel
theorem dX12_laysA_16 : decode cX12_laysA 16 = .ok (.aload_n 0, 1) := by decide +kernel
theorem dX12_laysA_17 : decode cX12_laysA 17 = .ok (.iload_n 1, 1) := by decide +kernel
theorem dX12_laysA_18 : decode cX12_laysA 18 = .ok (.iconst 1, 1) := by decide +kernel
theorem dX12_laysA_19 : decode cX12_laysA 19 = .ok (.iadd, 1) := by decide +kernel
theorem dX12_laysA_20 : decode cX12_laysA 20 = .ok (.invokevirtual 202, 3) := by decide +kernel
theorem dX12_laysA_23 : decode cX12_laysA 23 = .ok (.aload_n 0, 1) := by decide +kernel
theorem dX12_laysA_24 : decode cX12_laysA 24 = .ok (.lload_n 2, 1) := by decide +kernel
theorem dX12_laysA_25 : decode cX12_laysA 25 = .ok (.lneg, 1) := by decide +kernel
theorem dX12_laysA_26 : decode cX12_laysA 26 = .ok (.lload 4, 2) := by decide +kernel
theorem dX12_laysA_28 : decode cX12_laysA 28 = .ok (.invokevirtual 205, 3) := by decide +kernel
theorem dX12_laysA_31 : decode cX12_laysA 31 = .ok (.return_, 1) := by decide +kernel
theorem dX12_laysC_0 : decode cX12_laysC 0 = .ok (.aload_n 0, 1) := by decide +kernel
theorem dX12_laysC_1 : decode cX12_laysC 1 = .ok (.aload_n 0, 1) := by decide +kernel
theorem dX12_laysC_2 : decode cX12_laysC 2 = .ok (.iload_n 1, 1) := by decide +kernel
theorem dX12_laysC_3 : decode cX12_laysC 3 = .ok (.iconst 2, 1) := by decide +kernel
theorem dX12_laysC_4 : decode cX12_laysC 4 = .ok (.iadd, 1) := by decide +kernel
theorem dX12_laysC_5 : decode cX12_laysC 5 = .ok (.invokevirtual 199, 3) := by decide +kernel
theorem dX12_laysC_8 : decode cX12_laysC 8 = .ok (.aload_n 0, 1) := by decide +kernel
theorem dX12_laysC_9 : decode cX12_laysC 9 = .ok (.iload_n 1, 1) := by decide +kernel
theorem dX12_laysC_10 : decode cX12_laysC 10 = .ok (.iconst 1, 1) := by decide +kernel
theorem dX12_laysC_11 : decode cX12_laysC 11 = .ok (.iadd, 1) := by decide +kernel
theorem dX12_laysC_12 : decode cX12_laysC 12 = .ok (.invokevirtual 199, 3) := by decide +kernel
theorem dX12_laysC_15 : decode cX12_laysC 15 = .ok (.invokevirtual 191, 3) := by decide +kernel
theorem dX12_laysC_18 : decode cX12_laysC 18 = .ok (.aload_n 0, 1) := by decide +kernel
theorem dX12_laysC_19 : decode cX12_laysC 19 = .ok (.aload_n 0, 1) := by decide +kernel
theorem dX12_laysC_20 : decode cX12_laysC 20 = .ok (.iload_n 1, 1) := by decide +kernel
theorem dX12_laysC_21 : decode cX12_laysC 21 = .ok (.invokevirtual 199, 3) := by decide +kernel
theorem dX12_laysC_24 : decode cX12_laysC 24 = .ok (.aload_n 0, 1) := by decide +kernel
theorem dX12_laysC_25 : decode cX12_laysC 25 = .ok (.iload_n 1, 1) := by decide +kernel
theorem dX12_laysC_26 : decode cX12_laysC 26 = .ok (.iconst 1, 1) := by decide +kernel
theorem dX12_laysC_27 : decode cX12_laysC 27 = .ok (.iadd, 1) := by decide +kernel
theorem dX12_laysC_28 : decode cX12_laysC 28 = .ok (.invokevirtual 199, 3) := by decide +kernel
theorem dX12_laysC_31 : decode cX12_laysC 31 = .ok (.invokevirtual 208, 3) := by decide +kernel
theorem dX12_laysC_34 : decode cX12_laysC 34 = .ok (.return_, 1) := by decide +kernel
theorem dX12_entry_0 : decode cX12_entry 0 = .ok (.aload_n 0, 1) := by decide +kernel
theorem dX12_entry_1 : decode cX12_entry 1 = .ok (.getfield 145, 3) := by decide +kernel
theorem dX12_entry_4 : decode cX12_entry 4 = .ok (.ifCond .eq 39, 3) := by decide +kernel
theorem dX12_entry_7 : decode cX12_entry 7 = .ok (.iload_n 2, 1) := by decide +kernel
theorem dX12_entry_8 : decode cX12_entry 8 = .ok (.iconst 0, 1) := by decide +kernel
theorem dX12_entry_9 : decode cX12_entry 9 = .ok (.iload_n 1, 1) := by decide +kernel
theorem dX12_entry_10 : decode cX12_entry 10 = .ok (.ifCond .eq 12, 3) := by decide +kernel
theorem dX12_entry_13 : decode cX12_entry 13 = .ok (.aload_n 0, 1) := by decide +kernel
theorem dX12_entry_14 : decode cX12_entry 14 = .ok (.getfield 145, 3) := by decide +kernel
theorem dX12_entry_17 : decode cX12_entry 17 = .ok (.iconst 1, 1) := by decide +kernel
theorem dX12_entry_18 : decode cX12_entry 18 = .ok (.isub, 1) := by decide +kernel
theorem dX12_entry_19 : decode cX12_entry 19 = .ok (.goto 9, 3) := by decide +kernel
theorem dX12_entry_22 : decode cX12_entry 22 = .ok (.aload_n 0, 1) := by decide +kernel
theorem dX12_entry_23 : decode cX12_entry 23 = .ok (.getfield 145, 3) := by decide +kernel
theorem dX12_entry_26 : decode cX12_entry 26 = .ok (.iconst 2, 1) := by decide +kernel
theorem dX12_entry_27 : decode cX12_entry 27 = .ok (.isub, 1) := by decide +kernel
theorem dX12_entry_28 : decode cX12_entry 28 = .ok (.invokestatic 134, 3) := by decide +kernel
theorem dX12_entry_31 : decode cX12_entry 31 = .ok (.ifCond .eq 12, 3) := by decide +kernel
theorem dX12_entry_34 : decode cX12_entry 34 = .ok (.iload_n 3, 1) := by decide +kernel
theorem dX12_entry_35 : decode cX12_entry 35 = .ok (.iconst 0, 1) := by decide +kernel
theorem dX12_entry_36 : decode cX12_entry 36 = .ok (.iconst 1, 1) := by decide +kernel
theorem dX12_entry_37 : decode cX12_entry 37 = .ok (.invokestatic 134, 3) := by decide +kernel
theorem dX12_entry_40 : decode cX12_entry 40 = .ok (.ifCond .ne 7, 3) := by decide +kernel
theorem dX12_entry_43 : decode cX12_entry 43 = .ok (.ldc2_w 156, 3) := by decide +kernel
theorem dX12_entry_46 : decode cX12_entry 46 = .ok (.lreturn, 1) := by decide +kernel
theorem dX12_entry_47 : decode cX12_entry 47 = .ok (.aload_n 0, 1) := by decide +kernel
theorem dX12_entry_48 : decode cX12_entry 48 = .ok (.invokevirtual 158, 3) := by decide +kernel
theorem dX12_entry_51 : decode cX12_entry 51 = .ok (.iload_n 1, 1) := by decide +kernel
theorem dX12_entry_52 : decode cX12_entry 52 = .ok (.ifCond .eq 11, 3) := by decide +kernel
theorem dX12_entry_55 : decode cX12_entry 55 = .ok (.aload_n 0, 1) := by decide +kernel
theorem dX12_entry_56 : decode cX12_entry 56 = .ok (.iload_n 2, 1) := by decide +kernel
theorem dX12_entry_57 : decode cX12_entry 57 = .ok (.invokevirtual 211, 3) := by decide +kernel
theorem dX12_entry_60 : decode cX12_entry 60 = .ok (.goto 8, 3) := by decide +kernel
theorem dX12_entry_63 : decode cX12_entry 63 = .ok (.aload_n 0, 1) := by decide +kernel
theorem dX12_entry_64 : decode cX12_entry 64 = .ok (.iload_n 2, 1) := by decide +kernel
theorem dX12_entry_65 : decode cX12_entry 65 = .ok (.invokevirtual 214, 3) := by decide +kernel
theorem dX12_entry_68 : decode cX12_entry 68 = .ok (.aload_n 0, 1) := by decide +kernel
theorem dX12_entry_69 : decode cX12_entry 69 = .ok (.iload_n 3, 1) := by decide +kernel
theorem dX12_entry_70 : decode cX12_entry 70 = .ok (.invokevirtual 195, 3) := by decide +kernel
theorem dX12_entry_73 : decode cX12_entry 73 = .ok (.lreturn, 1) := by decide +kernel
theorem dX12_power_0 : decode cX12_power 0 = .ok (.aload_n 0, 1) := by decide +kernel
theorem dX12_power_1 : decode cX12_power 1 = .ok (.iload_n 1, 1) := by decide +kernel
theorem dX12_power_2 : decode cX12_power 2 = .ok (.iconst 0, 1) := by decide +kernel
theorem dX12_power_3 : decode cX12_power 3 = .ok (.iload_n 2, 1) := by decide +kernel
theorem dX12_power_4 : decode cX12_power 4 = .ok (.invokevirtual 173, 3) := by decide +kernel
theorem dX12_power_7 : decode cX12_power 7 = .ok (.lstore_n 3, 1) := by decide +kernel
theorem dX12_power_8 : decode cX12_power 8 = .ok (.iload_n 1, 1) := by decide +kernel
theorem dX12_power_9 : decode cX12_power 9 = .ok (.iload_n 2, 1) := by decide +kernel
theorem dX12_power_10 : decode cX12_power 10 = .ok (.isub, 1) := by decide +kernel
theorem dX12_power_11 : decode cX12_power 11 = .ok (.iconst 2, 1) := by decide +kernel
theorem dX12_power_12 : decode cX12_power 12 = .ok (.irem, 1) := by decide +kernel
theorem dX12_power_13 : decode cX12_power 13 = .ok (.ifCond .ne 7, 3) := by decide +kernel
theorem dX12_power_16 : decode cX12_power 16 = .ok (.lload_n 3, 1) := by decide +kernel
theorem dX12_power_17 : decode cX12_power 17 = .ok (.goto 5, 3) := by decide +kernel
theorem dX12_power_20 : decode cX12_power 20 = .ok (.lload_n 3, 1) := by decide +kernel
theorem dX12_power_21 : decode cX12_power 21 = .ok (.lneg, 1) := by decide +kernel
theorem dX12_power_22 : decode cX12_power 22 = .ok (.lreturn, 1) := by decide +kernel
theorem dX12_ortho_0 : decode cX12_ortho 0 = .ok (.aload_n 0, 1) := by decide +kernel
theorem dX12_ortho_1 : decode cX12_ortho 1 = .ok (.getfield 145, 3) := by decide +kernel
theorem dX12_ortho_4 : decode cX12_ortho 4 = .ok (.ifCond .eq 33, 3) := by decide +kernel
theorem dX12_ortho_7 : decode cX12_ortho 7 = .ok (.iload_n 1, 1) := by decide +kernel
theorem dX12_ortho_8 : decode cX12_ortho 8 = .ok (.iconst 0, 1) := by decide +kernel
theorem dX12_ortho_9 : decode cX12_ortho 9 = .ok (.aload_n 0, 1) := by decide +kernel
theorem dX12_ortho_10 : decode cX12_ortho 10 = .ok (.getfield 145, 3) := by decide +kernel
theorem dX12_ortho_13 : decode cX12_ortho 13 = .ok (.invokestatic 134, 3) := by decide +kernel
theorem dX12_ortho_16 : decode cX12_ortho 16 = .ok (.ifCond .eq 21, 3) := by decide +kernel
theorem dX12_ortho_19 : decode cX12_ortho 19 = .ok (.iload_n 2, 1) := by decide +kernel
theorem dX12_ortho_20 : decode cX12_ortho 20 = .ok (.iconst 0, 1) := by decide +kernel
theorem dX12_ortho_21 : decode cX12_ortho 21 = .ok (.iload_n 1, 1) := by decide +kernel
theorem dX12_ortho_22 : decode cX12_ortho 22 = .ok (.invokestatic 134, 3) := by decide +kernel
theorem dX12_ortho_25 : decode cX12_ortho 25 = .ok (.ifCond .eq 12, 3) := by decide +kernel
theorem dX12_ortho_28 : decode cX12_ortho 28 = .ok (.iload_n 3, 1) := by decide +kernel
theorem dX12_ortho_29 : decode cX12_ortho 29 = .ok (.iconst 0, 1) := by decide +kernel
theorem dX12_ortho_30 : decode cX12_ortho 30 = .ok (.iconst 1, 1) := by decide +kernel
theorem dX12_ortho_31 : decode cX12_ortho 31 = .ok (.invokestatic 134, 3) := by decide +kernel
theorem dX12_ortho_34 : decode cX12_ortho 34 = .ok (.ifCond .ne 7, 3) := by decide +kernel
theorem dX12_ortho_37 : decode cX12_ortho 37 = .ok (.ldc2_w 156, 3) := by decide +kernel
theorem dX12_ortho_40 : decode cX12_ortho 40 = .ok (.lreturn, 1) := by decide +kernel
theorem dX12_ortho_41 : decode cX12_ortho 41 = .ok (.aload_n 0, 1) := by decide +kernel
theorem dX12_ortho_42 : decode cX12_ortho 42 = .ok (.invokevirtual 158, 3) := by decide +kernel
theorem dX12_ortho_45 : decode cX12_ortho 45 = .ok (.iload_n 1, 1) := by decide +kernel
theorem dX12_ortho_46 : decode cX12_ortho 46 = .ok (.aload_n 0, 1) := by decide +kernel
theorem dX12_ortho_47 : decode cX12_ortho 47 = .ok (.getfield 145, 3) := by decide +kernel
theorem dX12_ortho_50 : decode cX12_ortho 50 = .ok (.if_icmp .ne 17, 3) := by decide +kernel
theorem dX12_ortho_53 : decode cX12_ortho 53 = .ok (.aload_n 0, 1) := by decide +kernel
theorem dX12_ortho_54 : decode cX12_ortho 54 = .ok (.aload_n 0, 1) := by decide +kernel
theorem dX12_ortho_55 : decode cX12_ortho 55 = .ok (.getfield 26, 3) := by decide +kernel
theorem dX12_ortho_58 : decode cX12_ortho 58 = .ok (.iload_n 2, 1) := by decide +kernel
theorem dX12_ortho_59 : decode cX12_ortho 59 = .ok (.laload, 1) := by decide +kernel
theorem dX12_ortho_60 : decode cX12_ortho 60 = .ok (.lconst 1, 1) := by decide +kernel
theorem dX12_ortho_61 : decode cX12_ortho 61 = .ok (.invokevirtual 191, 3) := by decide +kernel
theorem dX12_ortho_64 : decode cX12_ortho 64 = .ok (.goto 18, 3) := by decide +kernel
theorem dX12_ortho_67 : decode cX12_ortho 67 = .ok (.aload_n 0, 1) := by decide +kernel
theorem dX12_ortho_68 : decode cX12_ortho 68 = .ok (.aload_n 0, 1) := by decide +kernel
theorem dX12_ortho_69 : decode cX12_ortho 69 = .ok (.iload_n 1, 1) := by decide +kernel
theorem dX12_ortho_70 : decode cX12_ortho 70 = .ok (.iload_n 2, 1) := by decide +kernel
theorem dX12_ortho_71 : decode cX12_ortho 71 = .ok (.invokevirtual 217, 3) := by decide +kernel
theorem dX12_ortho_74 : decode cX12_ortho 74 = .ok (.aload_n 0, 1) := by decide +kernel
theorem dX12_ortho_75 : decode cX12_ortho 75 = .ok (.iload_n 1, 1) := by decide +kernel
theorem dX12_ortho_76 : decode cX12_ortho 76 = .ok (.invokevirtual 199, 3) := by decide +kernel
theorem dX12_ortho_79 : decode cX12_ortho 79 = .ok (.invokevirtual 191, 3) := by decide +kernel
theorem dX12_ortho_82 : decode cX12_ortho 82 = .ok (.aload_n 0, 1) := by decide +kernel
theorem dX12_ortho_83 : decode cX12_ortho 83 = .ok (.iload_n 3, 1) := by decide +kernel
theorem dX12_ortho_84 : decode cX12_ortho 84 = .ok (.invokevirtual 195, 3) := by decide +kernel
theorem dX12_ortho_87 : decode cX12_ortho 87 = .ok (.lreturn, 1) := by decide +kernel
theorem dX12_valueOf_0 : decode cX12_valueOf 0 = .ok (.lconst 0, 1) := by decide +kernel
theorem dX12_valueOf_1 : decode cX12_valueOf 1 = .ok (.lstore 4, 2) := by decide +kernel
theorem dX12_valueOf_3 : decode cX12_valueOf 3 = .ok (.iload_n 1, 1) := by decide +kernel
theorem dX12_valueOf_4 : decode cX12_valueOf 4 = .ok (.istore 6, 2) := by decide +kernel
theorem dX12_valueOf_6 : decode cX12_valueOf 6 = .ok (.iload 6, 2) := by decide +kernel
theorem dX12_valueOf_8 : decode cX12_valueOf 8 = .ok (.ifCond .lt 41, 3) := by decide +kernel
theorem dX12_valueOf_11 : decode cX12_valueOf 11 = .ok (.lload 4, 2) := by decide +kernel
theorem dX12_valueOf_13 : decode cX12_valueOf 13 = .ok (.lload_n 2, 1) := by decide +kernel
theorem dX12_valueOf_14 : decode cX12_valueOf 14 = .ok (.lmul, 1) := by decide +kernel
theorem dX12_valueOf_15 : decode cX12_valueOf 15 = .ok (.iload_n 1, 1) := by decide +kernel
theorem dX12_valueOf_16 : decode cX12_valueOf 16 = .ok (.aload_n 0, 1) := by decide +kernel
theorem dX12_valueOf_17 : decode cX12_valueOf 17 = .ok (.getfield 145, 3) := by decide +kernel
theorem dX12_valueOf_20 : decode cX12_valueOf 20 = .ok (.if_icmp .ne 13, 3) := by decide +kernel
theorem dX12_valueOf_23 : decode cX12_valueOf 23 = .ok (.aload_n 0, 1) := by decide +kernel
theorem dX12_valueOf_24 : decode cX12_valueOf 24 = .ok (.getfield 26, 3) := by decide +kernel
theorem dX12_valueOf_27 : decode cX12_valueOf 27 = .ok (.iload 6, 2) := by decide +kernel
theorem dX12_valueOf_29 : decode cX12_valueOf 29 = .ok (.laload, 1) := by decide +kernel
theorem dX12_valueOf_30 : decode cX12_valueOf 30 = .ok (.goto 10, 3) := by decide +kernel
theorem dX12_valueOf_33 : decode cX12_valueOf 33 = .ok (.aload_n 0, 1) := by decide +kernel
theorem dX12_valueOf_34 : decode cX12_valueOf 34 = .ok (.iload_n 1, 1) := by decide +kernel
theorem dX12_valueOf_35 : decode cX12_valueOf 35 = .ok (.iload 6, 2) := by decide +kernel
theorem dX12_valueOf_37 : decode cX12_valueOf 37 = .ok (.invokevirtual 217, 3) := by decide +kernel
theorem dX12_valueOf_40 : decode cX12_valueOf 40 = .ok (.ladd, 1) := by decide +kernel
theorem dX12_valueOf_41 : decode cX12_valueOf 41 = .ok (.lstore 4, 2) := by decide +kernel
theorem dX12_valueOf_43 : decode cX12_valueOf 43 = .ok (.iinc 6 (-1), 3) := by decide +kernel
theorem dX12_valueOf_46 : decode cX12_valueOf 46 = .ok (.goto (-40), 3) := by decide +kernel
theorem dX12_valueOf_49 : decode cX12_valueOf 49 = .ok (.lload 4, 2) := by decide +kernel
theorem dX12_valueOf_51 : decode cX12_valueOf 51 = .ok (.lreturn, 1) := by decide +kernel
theorem dX12_laterOf_0 : decode cX12_laterOf 0 = .ok (.lconst 0, 1) := by decide +kernel
theorem dX12_laterOf_1 : decode cX12_laterOf 1 = .ok (.lstore 4, 2) := by decide +kernel
theorem dX12_laterOf_3 : decode cX12_laterOf 3 = .ok (.iload_n 1, 1) := by decide +kernel
theorem dX12_laterOf_4 : decode cX12_laterOf 4 = .ok (.iconst 1, 1) := by decide +kernel
theorem dX12_laterOf_5 : decode cX12_laterOf 5 = .ok (.isub, 1) := by decide +kernel
theorem dX12_laterOf_6 : decode cX12_laterOf 6 = .ok (.istore 6, 2) := by decide +kernel
theorem dX12_laterOf_8 : decode cX12_laterOf 8 = .ok (.iload 6, 2) := by decide +kernel
theorem dX12_laterOf_10 : decode cX12_laterOf 10 = .ok (.ifCond .lt 82, 3) := by decide +kernel
theorem dX12_laterOf_13 : decode cX12_laterOf 13 = .ok (.lconst 0, 1) := by decide +kernel
theorem dX12_laterOf_14 : decode cX12_laterOf 14 = .ok (.lstore 7, 2) := by decide +kernel
theorem dX12_laterOf_16 : decode cX12_laterOf 16 = .ok (.iload 6, 2) := by decide +kernel
theorem dX12_laterOf_18 : decode cX12_laterOf 18 = .ok (.iconst 1, 1) := by decide +kernel
theorem dX12_laterOf_19 : decode cX12_laterOf 19 = .ok (.iadd, 1) := by decide +kernel
theorem dX12_laterOf_20 : decode cX12_laterOf 20 = .ok (.istore 9, 2) := by decide +kernel
theorem dX12_laterOf_22 : decode cX12_laterOf 22 = .ok (.iload 9, 2) := by decide +kernel
theorem dX12_laterOf_24 : decode cX12_laterOf 24 = .ok (.iload_n 1, 1) := by decide +kernel
theorem dX12_laterOf_25 : decode cX12_laterOf 25 = .ok (.if_icmp .gt 52, 3) := by decide +kernel
theorem dX12_laterOf_28 : decode cX12_laterOf 28 = .ok (.lload 7, 2) := by decide +kernel
theorem dX12_laterOf_30 : decode cX12_laterOf 30 = .ok (.iload_n 1, 1) := by decide +kernel
theorem dX12_laterOf_31 : decode cX12_laterOf 31 = .ok (.aload_n 0, 1) := by decide +kernel
theorem dX12_laterOf_32 : decode cX12_laterOf 32 = .ok (.getfield 145, 3) := by decide +kernel
theorem dX12_laterOf_35 : decode cX12_laterOf 35 = .ok (.if_icmp .ne 13, 3) := by decide +kernel
theorem dX12_laterOf_38 : decode cX12_laterOf 38 = .ok (.aload_n 0, 1) := by decide +kernel
theorem dX12_laterOf_39 : decode cX12_laterOf 39 = .ok (.getfield 26, 3) := by decide +kernel
theorem dX12_laterOf_42 : decode cX12_laterOf 42 = .ok (.iload 9, 2) := by decide +kernel
theorem dX12_laterOf_44 : decode cX12_laterOf 44 = .ok (.laload, 1) := by decide +kernel
theorem dX12_laterOf_45 : decode cX12_laterOf 45 = .ok (.goto 10, 3) := by decide +kernel
theorem dX12_laterOf_48 : decode cX12_laterOf 48 = .ok (.aload_n 0, 1) := by decide +kernel
theorem dX12_laterOf_49 : decode cX12_laterOf 49 = .ok (.iload_n 1, 1) := by decide +kernel
theorem dX12_laterOf_50 : decode cX12_laterOf 50 = .ok (.iload 9, 2) := by decide +kernel
theorem dX12_laterOf_52 : decode cX12_laterOf 52 = .ok (.invokevirtual 217, 3) := by decide +kernel
theorem dX12_laterOf_55 : decode cX12_laterOf 55 = .ok (.aload_n 0, 1) := by decide +kernel
theorem dX12_laterOf_56 : decode cX12_laterOf 56 = .ok (.getfield 33, 3) := by decide +kernel
theorem dX12_laterOf_59 : decode cX12_laterOf 59 = .ok (.iload 9, 2) := by decide +kernel
theorem dX12_laterOf_61 : decode cX12_laterOf 61 = .ok (.iconst 1, 1) := by decide +kernel
theorem dX12_laterOf_62 : decode cX12_laterOf 62 = .ok (.isub, 1) := by decide +kernel
theorem dX12_laterOf_63 : decode cX12_laterOf 63 = .ok (.iload 6, 2) := by decide +kernel
theorem dX12_laterOf_65 : decode cX12_laterOf 65 = .ok (.isub, 1) := by decide +kernel
theorem dX12_laterOf_66 : decode cX12_laterOf 66 = .ok (.laload, 1) := by decide +kernel
theorem dX12_laterOf_67 : decode cX12_laterOf 67 = .ok (.lmul, 1) := by decide +kernel
theorem dX12_laterOf_68 : decode cX12_laterOf 68 = .ok (.ladd, 1) := by decide +kernel
theorem dX12_laterOf_69 : decode cX12_laterOf 69 = .ok (.lstore 7, 2) := by decide +kernel
theorem dX12_laterOf_71 : decode cX12_laterOf 71 = .ok (.iinc 9 1, 3) := by decide +kernel
theorem dX12_laterOf_74 : decode cX12_laterOf 74 = .ok (.goto (-52), 3) := by decide +kernel
theorem dX12_laterOf_77 : decode cX12_laterOf 77 = .ok (.lload 4, 2) := by decide +kernel
theorem dX12_laterOf_79 : decode cX12_laterOf 79 = .ok (.lload_n 2, 1) := by decide +kernel
theorem dX12_laterOf_80 : decode cX12_laterOf 80 = .ok (.lmul, 1) := by decide +kernel
theorem dX12_laterOf_81 : decode cX12_laterOf 81 = .ok (.lload 7, 2) := by decide +kernel
theorem dX12_laterOf_83 : decode cX12_laterOf 83 = .ok (.ladd, 1) := by decide +kernel
theorem dX12_laterOf_84 : decode cX12_laterOf 84 = .ok (.lstore 4, 2) := by decide +kernel
theorem dX12_laterOf_86 : decode cX12_laterOf 86 = .ok (.iinc 6 (-1), 3) := by decide +kernel
theorem dX12_laterOf_89 : decode cX12_laterOf 89 = .ok (.goto (-81), 3) := by decide +kernel
theorem dX12_laterOf_92 : decode cX12_laterOf 92 = .ok (.lload 4, 2) := by decide +kernel
theorem dX12_laterOf_94 : decode cX12_laterOf 94 = .ok (.lreturn, 1) := by decide +kernel
theorem dX12_isNothing_0 : decode cX12_isNothing 0 = .ok (.iload_n 2, 1) := by decide +kernel
theorem dX12_isNothing_1 : decode cX12_isNothing 1 = .ok (.ifCond .ne 20, 3) := by decide +kernel
theorem dX12_isNothing_4 : decode cX12_isNothing 4 = .ok (.aload_n 0, 1) := by decide +kernel
theorem dX12_isNothing_5 : decode cX12_isNothing 5 = .ok (.iload_n 1, 1) := by decide +kernel
theorem dX12_isNothing_6 : decode cX12_isNothing 6 = .ok (.lload_n 3, 1) := by decide +kernel
theorem dX12_isNothing_7 : decode cX12_isNothing 7 = .ok (.invokevirtual 221, 3) := by decide +kernel
theorem dX12_isNothing_10 : decode cX12_isNothing 10 = .ok (.lconst 0, 1) := by decide +kernel
theorem dX12_isNothing_11 : decode cX12_isNothing 11 = .ok (.lcmp, 1) := by decide +kernel
theorem dX12_isNothing_12 : decode cX12_isNothing 12 = .ok (.ifCond .ne 7, 3) := by decide +kernel
theorem dX12_isNothing_15 : decode cX12_isNothing 15 = .ok (.iconst 1, 1) := by decide +kernel
theorem dX12_isNothing_16 : decode cX12_isNothing 16 = .ok (.goto 4, 3) := by decide +kernel
theorem dX12_isNothing_19 : decode cX12_isNothing 19 = .ok (.iconst 0, 1) := by decide +kernel
theorem dX12_isNothing_20 : decode cX12_isNothing 20 = .ok (.ireturn, 1) := by decide +kernel
theorem dX12_isNothing_21 : decode cX12_isNothing 21 = .ok (.iload_n 2, 1) := by decide +kernel
theorem dX12_isNothing_22 : decode cX12_isNothing 22 = .ok (.iconst 1, 1) := by decide +kernel
theorem dX12_isNothing_23 : decode cX12_isNothing 23 = .ok (.if_icmp .ne 20, 3) := by decide +kernel
theorem dX12_isNothing_26 : decode cX12_isNothing 26 = .ok (.aload_n 0, 1) := by decide +kernel
theorem dX12_isNothing_27 : decode cX12_isNothing 27 = .ok (.iload_n 1, 1) := by decide +kernel
theorem dX12_isNothing_28 : decode cX12_isNothing 28 = .ok (.lload_n 3, 1) := by decide +kernel
theorem dX12_isNothing_29 : decode cX12_isNothing 29 = .ok (.invokevirtual 225, 3) := by decide +kernel
theorem dX12_isNothing_32 : decode cX12_isNothing 32 = .ok (.lconst 0, 1) := by decide +kernel
theorem dX12_isNothing_33 : decode cX12_isNothing 33 = .ok (.lcmp, 1) := by decide +kernel
theorem dX12_isNothing_34 : decode cX12_isNothing 34 = .ok (.ifCond .ne 7, 3) := by decide +kernel
theorem dX12_isNothing_37 : decode cX12_isNothing 37 = .ok (.iconst 1, 1) := by decide +kernel
theorem dX12_isNothing_38 : decode cX12_isNothing 38 = .ok (.goto 4, 3) := by decide +kernel
theorem dX12_isNothing_41 : decode cX12_isNothing 41 = .ok (.iconst 0, 1) := by decide +kernel
theorem dX12_isNothing_42 : decode cX12_isNothing 42 = .ok (.ireturn, 1) := by decide +kernel
theorem dX12_isNothing_43 : decode cX12_isNothing 43 = .ok (.aload_n 0, 1) := by decide +kernel
theorem dX12_isNothing_44 : decode cX12_isNothing 44 = .ok (.iload_n 1, 1) := by decide +kernel
theorem dX12_isNothing_45 : decode cX12_isNothing 45 = .ok (.iconst 1, 1) := by decide +kernel
theorem dX12_isNothing_46 : decode cX12_isNothing 46 = .ok (.isub, 1) := by decide +kernel
theorem dX12_isNothing_47 : decode cX12_isNothing 47 = .ok (.invokevirtual 211, 3) := by decide +kernel
theorem dX12_isNothing_50 : decode cX12_isNothing 50 = .ok (.aload_n 0, 1) := by decide +kernel
theorem dX12_isNothing_51 : decode cX12_isNothing 51 = .ok (.lload_n 3, 1) := by decide +kernel
theorem dX12_isNothing_52 : decode cX12_isNothing 52 = .ok (.lneg, 1) := by decide +kernel
theorem dX12_isNothing_53 : decode cX12_isNothing 53 = .ok (.lconst 1, 1) := by decide +kernel
theorem dX12_isNothing_54 : decode cX12_isNothing 54 = .ok (.invokevirtual 205, 3) := by decide +kernel
theorem dX12_isNothing_57 : decode cX12_isNothing 57 = .ok (.iload_n 2, 1) := by decide +kernel
theorem dX12_isNothing_58 : decode cX12_isNothing 58 = .ok (.iload_n 1, 1) := by decide +kernel
theorem dX12_isNothing_59 : decode cX12_isNothing 59 = .ok (.iconst 1, 1) := by decide +kernel
theorem dX12_isNothing_60 : decode cX12_isNothing 60 = .ok (.isub, 1) := by decide +kernel
theorem dX12_isNothing_61 : decode cX12_isNothing 61 = .ok (.if_icmp .ne 18, 3) := by decide +kernel
theorem dX12_isNothing_64 : decode cX12_isNothing 64 = .ok (.aload_n 0, 1) := by decide +kernel
theorem dX12_isNothing_65 : decode cX12_isNothing 65 = .ok (.getfield 177, 3) := by decide +kernel
theorem dX12_isNothing_68 : decode cX12_isNothing 68 = .ok (.lconst 0, 1) := by decide +kernel
theorem dX12_isNothing_69 : decode cX12_isNothing 69 = .ok (.lcmp, 1) := by decide +kernel
theorem dX12_isNothing_70 : decode cX12_isNothing 70 = .ok (.ifCond .ne 7, 3) := by decide +kernel
theorem dX12_isNothing_73 : decode cX12_isNothing 73 = .ok (.iconst 1, 1) := by decide +kernel
theorem dX12_isNothing_74 : decode cX12_isNothing 74 = .ok (.goto 4, 3) := by decide +kernel
theorem dX12_isNothing_77 : decode cX12_isNothing 77 = .ok (.iconst 0, 1) := by decide +kernel
theorem dX12_isNothing_78 : decode cX12_isNothing 78 = .ok (.ireturn, 1) := by decide +kernel
theorem dX12_isNothing_79 : decode cX12_isNothing 79 = .ok (.aload_n 0, 1) := by decide +kernel
theorem dX12_isNothing_80 : decode cX12_isNothing 80 = .ok (.getfield 177, 3) := by decide +kernel
theorem dX12_isNothing_83 : decode cX12_isNothing 83 = .ok (.lstore 5, 2) := by decide +kernel
theorem dX12_isNothing_85 : decode cX12_isNothing 85 = .ok (.aload_n 0, 1) := by decide +kernel
theorem dX12_isNothing_86 : decode cX12_isNothing 86 = .ok (.getfield 181, 3) := by decide +kernel
theorem dX12_isNothing_89 : decode cX12_isNothing 89 = .ok (.lstore 7, 2) := by decide +kernel
theorem dX12_isNothing_91 : decode cX12_isNothing 91 = .ok (.aload_n 0, 1) := by decide +kernel
theorem dX12_isNothing_92 : decode cX12_isNothing 92 = .ok (.iconst 2, 1) := by decide +kernel
theorem dX12_isNothing_93 : decode cX12_isNothing 93 = .ok (.invokevirtual 211, 3) := by decide +kernel
theorem dX12_isNothing_96 : decode cX12_isNothing 96 = .ok (.aload_n 0, 1) := by decide +kernel
theorem dX12_isNothing_97 : decode cX12_isNothing 97 = .ok (.lload_n 3, 1) := by decide +kernel
theorem dX12_isNothing_98 : decode cX12_isNothing 98 = .ok (.lneg, 1) := by decide +kernel
theorem dX12_isNothing_99 : decode cX12_isNothing 99 = .ok (.lconst 1, 1) := by decide +kernel
theorem dX12_isNothing_100 : decode cX12_isNothing 100 = .ok (.invokevirtual 205, 3) := by decide +kernel
theorem dX12_isNothing_103 : decode cX12_isNothing 103 = .ok (.aload_n 0, 1) := by decide +kernel
theorem dX12_isNothing_104 : decode cX12_isNothing 104 = .ok (.lload 5, 2) := by decide +kernel
theorem dX12_isNothing_106 : decode cX12_isNothing 106 = .ok (.lload 7, 2) := by decide +kernel
theorem dX12_isNothing_108 : decode cX12_isNothing 108 = .ok (.invokevirtual 208, 3) := by decide +kernel
theorem dX12_isNothing_111 : decode cX12_isNothing 111 = .ok (.aload_n 0, 1) := by decide +kernel
theorem dX12_isNothing_112 : decode cX12_isNothing 112 = .ok (.getfield 177, 3) := by decide +kernel
theorem dX12_isNothing_115 : decode cX12_isNothing 115 = .ok (.lstore 5, 2) := by decide +kernel
theorem dX12_isNothing_117 : decode cX12_isNothing 117 = .ok (.aload_n 0, 1) := by decide +kernel
theorem dX12_isNothing_118 : decode cX12_isNothing 118 = .ok (.getfield 181, 3) := by decide +kernel
theorem dX12_isNothing_121 : decode cX12_isNothing 121 = .ok (.lstore 7, 2) := by decide +kernel
theorem dX12_isNothing_123 : decode cX12_isNothing 123 = .ok (.aload_n 0, 1) := by decide +kernel
theorem dX12_isNothing_124 : decode cX12_isNothing 124 = .ok (.iconst 2, 1) := by decide +kernel
theorem dX12_isNothing_125 : decode cX12_isNothing 125 = .ok (.invokevirtual 214, 3) := by decide +kernel
theorem dX12_isNothing_128 : decode cX12_isNothing 128 = .ok (.aload_n 0, 1) := by decide +kernel
theorem dX12_isNothing_129 : decode cX12_isNothing 129 = .ok (.getfield 177, 3) := by decide +kernel
theorem dX12_isNothing_132 : decode cX12_isNothing 132 = .ok (.lload 5, 2) := by decide +kernel
theorem dX12_isNothing_134 : decode cX12_isNothing 134 = .ok (.lcmp, 1) := by decide +kernel
theorem dX12_isNothing_135 : decode cX12_isNothing 135 = .ok (.ifCond .ne 17, 3) := by decide +kernel
theorem dX12_isNothing_138 : decode cX12_isNothing 138 = .ok (.aload_n 0, 1) := by decide +kernel
theorem dX12_isNothing_139 : decode cX12_isNothing 139 = .ok (.getfield 181, 3) := by decide +kernel
theorem dX12_isNothing_142 : decode cX12_isNothing 142 = .ok (.lload 7, 2) := by decide +kernel
theorem dX12_isNothing_144 : decode cX12_isNothing 144 = .ok (.lcmp, 1) := by decide +kernel
theorem dX12_isNothing_145 : decode cX12_isNothing 145 = .ok (.ifCond .ne 7, 3) := by decide +kernel
theorem dX12_isNothing_148 : decode cX12_isNothing 148 = .ok (.iconst 1, 1) := by decide +kernel
theorem dX12_isNothing_149 : decode cX12_isNothing 149 = .ok (.goto 4, 3) := by decide +kernel
theorem dX12_isNothing_152 : decode cX12_isNothing 152 = .ok (.iconst 0, 1) := by decide +kernel
theorem dX12_isNothing_153 : decode cX12_isNothing 153 = .ok (.ireturn, 1) := by decide +kernel
theorem dX12_fraction_0 : decode cX12_fraction 0 = .ok (.aload_n 0, 1) := by decide +kernel
theorem dX12_fraction_1 : decode cX12_fraction 1 = .ok (.getfield 145, 3) := by decide +kernel
theorem dX12_fraction_4 : decode cX12_fraction 4 = .ok (.ifCond .eq 35, 3) := by decide +kernel
theorem dX12_fraction_7 : decode cX12_fraction 7 = .ok (.iload_n 1, 1) := by decide +kernel
theorem dX12_fraction_8 : decode cX12_fraction 8 = .ok (.iconst 1, 1) := by decide +kernel
theorem dX12_fraction_9 : decode cX12_fraction 9 = .ok (.aload_n 0, 1) := by decide +kernel
theorem dX12_fraction_10 : decode cX12_fraction 10 = .ok (.getfield 145, 3) := by decide +kernel
theorem dX12_fraction_13 : decode cX12_fraction 13 = .ok (.invokestatic 134, 3) := by decide +kernel
theorem dX12_fraction_16 : decode cX12_fraction 16 = .ok (.ifCond .eq 23, 3) := by decide +kernel
theorem dX12_fraction_19 : decode cX12_fraction 19 = .ok (.iload_n 2, 1) := by decide +kernel
theorem dX12_fraction_20 : decode cX12_fraction 20 = .ok (.bipush (-20), 2) := by decide +kernel
theorem dX12_fraction_22 : decode cX12_fraction 22 = .ok (.bipush 20, 2) := by decide +kernel
theorem dX12_fraction_24 : decode cX12_fraction 24 = .ok (.invokestatic 134, 3) := by decide +kernel
theorem dX12_fraction_27 : decode cX12_fraction 27 = .ok (.ifCond .eq 12, 3) := by decide +kernel
theorem dX12_fraction_30 : decode cX12_fraction 30 = .ok (.iload_n 3, 1) := by decide +kernel
theorem dX12_fraction_31 : decode cX12_fraction 31 = .ok (.iconst 0, 1) := by decide +kernel
theorem dX12_fraction_32 : decode cX12_fraction 32 = .ok (.iconst 1, 1) := by decide +kernel
theorem dX12_fraction_33 : decode cX12_fraction 33 = .ok (.invokestatic 134, 3) := by decide +kernel
theorem dX12_fraction_36 : decode cX12_fraction 36 = .ok (.ifCond .ne 7, 3) := by decide +kernel
theorem dX12_fraction_39 : decode cX12_fraction 39 = .ok (.ldc2_w 156, 3) := by decide +kernel
theorem dX12_fraction_42 : decode cX12_fraction 42 = .ok (.lreturn, 1) := by decide +kernel
theorem dX12_fraction_43 : decode cX12_fraction 43 = .ok (.aload_n 0, 1) := by decide +kernel
theorem dX12_fraction_44 : decode cX12_fraction 44 = .ok (.invokevirtual 158, 3) := by decide +kernel
theorem dX12_fraction_47 : decode cX12_fraction 47 = .ok (.iconst 0, 1) := by decide +kernel
theorem dX12_fraction_48 : decode cX12_fraction 48 = .ok (.istore 4, 2) := by decide +kernel
theorem dX12_fraction_50 : decode cX12_fraction 50 = .ok (.iload 4, 2) := by decide +kernel
theorem dX12_fraction_52 : decode cX12_fraction 52 = .ok (.iload_n 1, 1) := by decide +kernel
theorem dX12_fraction_53 : decode cX12_fraction 53 = .ok (.if_icmp .ge 25, 3) := by decide +kernel
theorem dX12_fraction_56 : decode cX12_fraction 56 = .ok (.aload_n 0, 1) := by decide +kernel
theorem dX12_fraction_57 : decode cX12_fraction 57 = .ok (.iload_n 1, 1) := by decide +kernel
theorem dX12_fraction_58 : decode cX12_fraction 58 = .ok (.iload 4, 2) := by decide +kernel
theorem dX12_fraction_60 : decode cX12_fraction 60 = .ok (.iload_n 2, 1) := by decide +kernel
theorem dX12_fraction_61 : decode cX12_fraction 61 = .ok (.i2l, 1) := by decide +kernel
theorem dX12_fraction_62 : decode cX12_fraction 62 = .ok (.invokevirtual 228, 3) := by decide +kernel
theorem dX12_fraction_65 : decode cX12_fraction 65 = .ok (.ifCond .eq 7, 3) := by decide +kernel
theorem dX12_fraction_68 : decode cX12_fraction 68 = .ok (.ldc2_w 232, 3) := by decide +kernel
theorem dX12_fraction_71 : decode cX12_fraction 71 = .ok (.lreturn, 1) := by decide +kernel
theorem dX12_fraction_72 : decode cX12_fraction 72 = .ok (.iinc 4 1, 3) := by decide +kernel
theorem dX12_fraction_75 : decode cX12_fraction 75 = .ok (.goto (-25), 3) := by decide +kernel
theorem dX12_fraction_78 : decode cX12_fraction 78 = .ok (.aload_n 0, 1) := by decide +kernel
theorem dX12_fraction_79 : decode cX12_fraction 79 = .ok (.aload_n 0, 1) := by decide +kernel
theorem dX12_fraction_80 : decode cX12_fraction 80 = .ok (.iload_n 1, 1) := by decide +kernel
theorem dX12_fraction_81 : decode cX12_fraction 81 = .ok (.iload_n 2, 1) := by decide +kernel
theorem dX12_fraction_82 : decode cX12_fraction 82 = .ok (.i2l, 1) := by decide +kernel
theorem dX12_fraction_83 : decode cX12_fraction 83 = .ok (.invokevirtual 225, 3) := by decide +kernel
theorem dX12_fraction_86 : decode cX12_fraction 86 = .ok (.aload_n 0, 1) := by decide +kernel
theorem dX12_fraction_87 : decode cX12_fraction 87 = .ok (.iload_n 1, 1) := by decide +kernel
theorem dX12_fraction_88 : decode cX12_fraction 88 = .ok (.iload_n 2, 1) := by decide +kernel
theorem dX12_fraction_89 : decode cX12_fraction 89 = .ok (.i2l, 1) := by decide +kernel
theorem dX12_fraction_90 : decode cX12_fraction 90 = .ok (.invokevirtual 221, 3) := by decide +kernel
theorem dX12_fraction_93 : decode cX12_fraction 93 = .ok (.invokevirtual 191, 3) := by decide +kernel
theorem dX12_fraction_96 : decode cX12_fraction 96 = .ok (.aload_n 0, 1) := by decide +kernel
theorem dX12_fraction_97 : decode cX12_fraction 97 = .ok (.iload_n 3, 1) := by decide +kernel
theorem dX12_fraction_98 : decode cX12_fraction 98 = .ok (.invokevirtual 195, 3) := by decide +kernel
theorem dX12_fraction_101 : decode cX12_fraction 101 = .ok (.lreturn, 1) := by decide +kernel
theorem dX12_laysChain_0 : decode cX12_laysChain 0 = .ok (.aload_n 0, 1) := by decide +kernel
theorem dX12_laysChain_1 : decode cX12_laysChain 1 = .ok (.getfield 145, 3) := by decide +kernel
theorem dX12_laysChain_4 : decode cX12_laysChain 4 = .ok (.iconst 3, 1) := by decide +kernel
theorem dX12_laysChain_5 : decode cX12_laysChain 5 = .ok (.if_icmp .gt 12, 3) := by decide +kernel
theorem dX12_laysChain_8 : decode cX12_laysChain 8 = .ok (.aload_n 0, 1) := by decide +kernel
theorem dX12_laysChain_9 : decode cX12_laysChain 9 = .ok (.getfield 20, 3) := by decide +kernel
theorem dX12_laysChain_12 : decode cX12_laysChain 12 = .ok (.iconst 0, 1) := by decide +kernel
theorem dX12_laysChain_13 : decode cX12_laysChain 13 = .ok (.iaload, 1) := by decide +kernel
theorem dX12_laysChain_14 : decode cX12_laysChain 14 = .ok (.ifCond .gt 5, 3) := by decide +kernel
theorem dX12_laysChain_17 : decode cX12_laysChain 17 = .ok (.iconst 0, 1) := by decide +kernel
theorem dX12_laysChain_18 : decode cX12_laysChain 18 = .ok (.ireturn, 1) := by decide +kernel
theorem dX12_laysChain_19 : decode cX12_laysChain 19 = .ok (.aload_n 0, 1) := by decide +kernel
theorem dX12_laysChain_20 : decode cX12_laysChain 20 = .ok (.invokevirtual 158, 3) := by decide +kernel
theorem dX12_laysChain_23 : decode cX12_laysChain 23 = .ok (.aload_n 0, 1) := by decide +kernel
theorem dX12_laysChain_24 : decode cX12_laysChain 24 = .ok (.getfield 145, 3) := by decide +kernel
theorem dX12_laysChain_27 : decode cX12_laysChain 27 = .ok (.iconst 1, 1) := by decide +kernel
theorem dX12_laysChain_28 : decode cX12_laysChain 28 = .ok (.isub, 1) := by decide +kernel
theorem dX12_laysChain_29 : decode cX12_laysChain 29 = .ok (.istore_n 1, 1) := by decide +kernel
theorem dX12_laysChain_30 : decode cX12_laysChain 30 = .ok (.iload_n 1, 1) := by decide +kernel
theorem dX12_laysChain_31 : decode cX12_laysChain 31 = .ok (.ifCond .lt 223, 3) := by decide +kernel
theorem dX12_laysChain_34 : decode cX12_laysChain 34 = .ok (.iload_n 1, 1) := by decide +kernel
theorem dX12_laysChain_35 : decode cX12_laysChain 35 = .ok (.aload_n 0, 1) := by decide +kernel
theorem dX12_laysChain_36 : decode cX12_laysChain 36 = .ok (.getfield 145, 3) := by decide +kernel
theorem dX12_laysChain_39 : decode cX12_laysChain 39 = .ok (.iconst 1, 1) := by decide +kernel
theorem dX12_laysChain_40 : decode cX12_laysChain 40 = .ok (.isub, 1) := by decide +kernel
theorem dX12_laysChain_41 : decode cX12_laysChain 41 = .ok (.if_icmp .ne 12, 3) := by decide +kernel
theorem dX12_laysChain_44 : decode cX12_laysChain 44 = .ok (.aload_n 0, 1) := by decide +kernel
theorem dX12_laysChain_45 : decode cX12_laysChain 45 = .ok (.lconst 1, 1) := by decide +kernel
theorem dX12_laysChain_46 : decode cX12_laysChain 46 = .ok (.lconst 1, 1) := by decide +kernel
theorem dX12_laysChain_47 : decode cX12_laysChain 47 = .ok (.invokevirtual 191, 3) := by decide +kernel
theorem dX12_laysChain_50 : decode cX12_laysChain 50 = .ok (.goto 106, 3) := by decide +kernel
theorem dX12_laysChain_53 : decode cX12_laysChain 53 = .ok (.aload_n 0, 1) := by decide +kernel
theorem dX12_laysChain_54 : decode cX12_laysChain 54 = .ok (.aload_n 0, 1) := by decide +kernel
theorem dX12_laysChain_55 : decode cX12_laysChain 55 = .ok (.getfield 42, 3) := by decide +kernel
theorem dX12_laysChain_58 : decode cX12_laysChain 58 = .ok (.iload_n 1, 1) := by decide +kernel
theorem dX12_laysChain_59 : decode cX12_laysChain 59 = .ok (.iconst 1, 1) := by decide +kernel
theorem dX12_laysChain_60 : decode cX12_laysChain 60 = .ok (.iadd, 1) := by decide +kernel
theorem dX12_laysChain_61 : decode cX12_laysChain 61 = .ok (.laload, 1) := by decide +kernel
theorem dX12_laysChain_62 : decode cX12_laysChain 62 = .ok (.aload_n 0, 1) := by decide +kernel
theorem dX12_laysChain_63 : decode cX12_laysChain 63 = .ok (.getfield 45, 3) := by decide +kernel
theorem dX12_laysChain_66 : decode cX12_laysChain 66 = .ok (.iload_n 1, 1) := by decide +kernel
theorem dX12_laysChain_67 : decode cX12_laysChain 67 = .ok (.iconst 1, 1) := by decide +kernel
theorem dX12_laysChain_68 : decode cX12_laysChain 68 = .ok (.iadd, 1) := by decide +kernel
theorem dX12_laysChain_69 : decode cX12_laysChain 69 = .ok (.laload, 1) := by decide +kernel
theorem dX12_laysChain_70 : decode cX12_laysChain 70 = .ok (.invokevirtual 191, 3) := by decide +kernel
theorem dX12_laysChain_73 : decode cX12_laysChain 73 = .ok (.aload_n 0, 1) := by decide +kernel
theorem dX12_laysChain_74 : decode cX12_laysChain 74 = .ok (.aload_n 0, 1) := by decide +kernel
theorem dX12_laysChain_75 : decode cX12_laysChain 75 = .ok (.getfield 42, 3) := by decide +kernel
theorem dX12_laysChain_78 : decode cX12_laysChain 78 = .ok (.iload_n 1, 1) := by decide +kernel
theorem dX12_laysChain_79 : decode cX12_laysChain 79 = .ok (.iconst 1, 1) := by decide +kernel
theorem dX12_laysChain_80 : decode cX12_laysChain 80 = .ok (.iadd, 1) := by decide +kernel
theorem dX12_laysChain_81 : decode cX12_laysChain 81 = .ok (.laload, 1) := by decide +kernel
theorem dX12_laysChain_82 : decode cX12_laysChain 82 = .ok (.aload_n 0, 1) := by decide +kernel
theorem dX12_laysChain_83 : decode cX12_laysChain 83 = .ok (.getfield 45, 3) := by decide +kernel
theorem dX12_laysChain_86 : decode cX12_laysChain 86 = .ok (.iload_n 1, 1) := by decide +kernel
theorem dX12_laysChain_87 : decode cX12_laysChain 87 = .ok (.iconst 1, 1) := by decide +kernel
theorem dX12_laysChain_88 : decode cX12_laysChain 88 = .ok (.iadd, 1) := by decide +kernel
theorem dX12_laysChain_89 : decode cX12_laysChain 89 = .ok (.laload, 1) := by decide +kernel
theorem dX12_laysChain_90 : decode cX12_laysChain 90 = .ok (.invokevirtual 208, 3) := by decide +kernel
theorem dX12_laysChain_93 : decode cX12_laysChain 93 = .ok (.aload_n 0, 1) := by decide +kernel
theorem dX12_laysChain_94 : decode cX12_laysChain 94 = .ok (.aload_n 0, 1) := by decide +kernel
theorem dX12_laysChain_95 : decode cX12_laysChain 95 = .ok (.getfield 39, 3) := by decide +kernel
theorem dX12_laysChain_98 : decode cX12_laysChain 98 = .ok (.iload_n 1, 1) := by decide +kernel
theorem dX12_laysChain_99 : decode cX12_laysChain 99 = .ok (.iconst 1, 1) := by decide +kernel
theorem dX12_laysChain_100 : decode cX12_laysChain 100 = .ok (.iadd, 1) := by decide +kernel
theorem dX12_laysChain_101 : decode cX12_laysChain 101 = .ok (.laload, 1) := by decide +kernel
theorem dX12_laysChain_102 : decode cX12_laysChain 102 = .ok (.aload_n 0, 1) := by decide +kernel
theorem dX12_laysChain_103 : decode cX12_laysChain 103 = .ok (.getfield 36, 3) := by decide +kernel
theorem dX12_laysChain_106 : decode cX12_laysChain 106 = .ok (.iload_n 1, 1) := by decide +kernel
theorem dX12_laysChain_107 : decode cX12_laysChain 107 = .ok (.iconst 1, 1) := by decide +kernel
theorem dX12_laysChain_108 : decode cX12_laysChain 108 = .ok (.iadd, 1) := by decide +kernel
theorem dX12_laysChain_109 : decode cX12_laysChain 109 = .ok (.laload, 1) := by decide +kernel
theorem dX12_laysChain_110 : decode cX12_laysChain 110 = .ok (.invokevirtual 208, 3) := by decide +kernel
theorem dX12_laysChain_113 : decode cX12_laysChain 113 = .ok (.aload_n 0, 1) := by decide +kernel
theorem dX12_laysChain_114 : decode cX12_laysChain 114 = .ok (.getfield 177, 3) := by decide +kernel
theorem dX12_laysChain_117 : decode cX12_laysChain 117 = .ok (.lstore_n 2, 1) := by decide +kernel
theorem dX12_laysChain_118 : decode cX12_laysChain 118 = .ok (.aload_n 0, 1) := by decide +kernel
theorem dX12_laysChain_119 : decode cX12_laysChain 119 = .ok (.getfield 181, 3) := by decide +kernel
theorem dX12_laysChain_122 : decode cX12_laysChain 122 = .ok (.lstore 4, 2) := by decide +kernel
theorem dX12_laysChain_124 : decode cX12_laysChain 124 = .ok (.aload_n 0, 1) := by decide +kernel
theorem dX12_laysChain_125 : decode cX12_laysChain 125 = .ok (.iload_n 1, 1) := by decide +kernel
theorem dX12_laysChain_126 : decode cX12_laysChain 126 = .ok (.invokevirtual 214, 3) := by decide +kernel
theorem dX12_laysChain_129 : decode cX12_laysChain 129 = .ok (.aload_n 0, 1) := by decide +kernel
theorem dX12_laysChain_130 : decode cX12_laysChain 130 = .ok (.getfield 177, 3) := by decide +kernel
theorem dX12_laysChain_133 : decode cX12_laysChain 133 = .ok (.lstore 6, 2) := by decide +kernel
theorem dX12_laysChain_135 : decode cX12_laysChain 135 = .ok (.aload_n 0, 1) := by decide +kernel
theorem dX12_laysChain_136 : decode cX12_laysChain 136 = .ok (.getfield 181, 3) := by decide +kernel
theorem dX12_laysChain_139 : decode cX12_laysChain 139 = .ok (.lstore 8, 2) := by decide +kernel
theorem dX12_laysChain_141 : decode cX12_laysChain 141 = .ok (.aload_n 0, 1) := by decide +kernel
theorem dX12_laysChain_142 : decode cX12_laysChain 142 = .ok (.lload_n 2, 1) := by decide +kernel
theorem dX12_laysChain_143 : decode cX12_laysChain 143 = .ok (.lload 4, 2) := by decide +kernel
theorem dX12_laysChain_145 : decode cX12_laysChain 145 = .ok (.invokevirtual 191, 3) := by decide +kernel
theorem dX12_laysChain_148 : decode cX12_laysChain 148 = .ok (.aload_n 0, 1) := by decide +kernel
theorem dX12_laysChain_149 : decode cX12_laysChain 149 = .ok (.lload 8, 2) := by decide +kernel
theorem dX12_laysChain_151 : decode cX12_laysChain 151 = .ok (.lload 6, 2) := by decide +kernel
theorem dX12_laysChain_153 : decode cX12_laysChain 153 = .ok (.invokevirtual 208, 3) := by decide +kernel
theorem dX12_laysChain_156 : decode cX12_laysChain 156 = .ok (.aload_n 0, 1) := by decide +kernel
theorem dX12_laysChain_157 : decode cX12_laysChain 157 = .ok (.getfield 36, 3) := by decide +kernel
theorem dX12_laysChain_160 : decode cX12_laysChain 160 = .ok (.iload_n 1, 1) := by decide +kernel
theorem dX12_laysChain_161 : decode cX12_laysChain 161 = .ok (.aload_n 0, 1) := by decide +kernel
theorem dX12_laysChain_162 : decode cX12_laysChain 162 = .ok (.getfield 177, 3) := by decide +kernel
theorem dX12_laysChain_165 : decode cX12_laysChain 165 = .ok (.lastore, 1) := by decide +kernel
theorem dX12_laysChain_166 : decode cX12_laysChain 166 = .ok (.aload_n 0, 1) := by decide +kernel
theorem dX12_laysChain_167 : decode cX12_laysChain 167 = .ok (.getfield 39, 3) := by decide +kernel
theorem dX12_laysChain_170 : decode cX12_laysChain 170 = .ok (.iload_n 1, 1) := by decide +kernel
theorem dX12_laysChain_171 : decode cX12_laysChain 171 = .ok (.aload_n 0, 1) := by decide +kernel
theorem dX12_laysChain_172 : decode cX12_laysChain 172 = .ok (.getfield 181, 3) := by decide +kernel
theorem dX12_laysChain_175 : decode cX12_laysChain 175 = .ok (.lastore, 1) := by decide +kernel
theorem dX12_laysChain_176 : decode cX12_laysChain 176 = .ok (.aload_n 0, 1) := by decide +kernel
theorem dX12_laysChain_177 : decode cX12_laysChain 177 = .ok (.iload_n 1, 1) := by decide +kernel
theorem dX12_laysChain_178 : decode cX12_laysChain 178 = .ok (.invokevirtual 211, 3) := by decide +kernel
theorem dX12_laysChain_181 : decode cX12_laysChain 181 = .ok (.aload_n 0, 1) := by decide +kernel
theorem dX12_laysChain_182 : decode cX12_laysChain 182 = .ok (.aload_n 0, 1) := by decide +kernel
theorem dX12_laysChain_183 : decode cX12_laysChain 183 = .ok (.getfield 36, 3) := by decide +kernel
theorem dX12_laysChain_186 : decode cX12_laysChain 186 = .ok (.iload_n 1, 1) := by decide +kernel
theorem dX12_laysChain_187 : decode cX12_laysChain 187 = .ok (.laload, 1) := by decide +kernel
theorem dX12_laysChain_188 : decode cX12_laysChain 188 = .ok (.aload_n 0, 1) := by decide +kernel
theorem dX12_laysChain_189 : decode cX12_laysChain 189 = .ok (.getfield 39, 3) := by decide +kernel
theorem dX12_laysChain_192 : decode cX12_laysChain 192 = .ok (.iload_n 1, 1) := by decide +kernel
theorem dX12_laysChain_193 : decode cX12_laysChain 193 = .ok (.laload, 1) := by decide +kernel
theorem dX12_laysChain_194 : decode cX12_laysChain 194 = .ok (.invokevirtual 208, 3) := by decide +kernel
theorem dX12_laysChain_197 : decode cX12_laysChain 197 = .ok (.iload_n 1, 1) := by decide +kernel
theorem dX12_laysChain_198 : decode cX12_laysChain 198 = .ok (.aload_n 0, 1) := by decide +kernel
theorem dX12_laysChain_199 : decode cX12_laysChain 199 = .ok (.getfield 145, 3) := by decide +kernel
theorem dX12_laysChain_202 : decode cX12_laysChain 202 = .ok (.iconst 1, 1) := by decide +kernel
theorem dX12_laysChain_203 : decode cX12_laysChain 203 = .ok (.isub, 1) := by decide +kernel
theorem dX12_laysChain_204 : decode cX12_laysChain 204 = .ok (.if_icmp .ge 24, 3) := by decide +kernel
theorem dX12_laysChain_207 : decode cX12_laysChain 207 = .ok (.aload_n 0, 1) := by decide +kernel
theorem dX12_laysChain_208 : decode cX12_laysChain 208 = .ok (.aload_n 0, 1) := by decide +kernel
theorem dX12_laysChain_209 : decode cX12_laysChain 209 = .ok (.getfield 42, 3) := by decide +kernel
theorem dX12_laysChain_212 : decode cX12_laysChain 212 = .ok (.iload_n 1, 1) := by decide +kernel
theorem dX12_laysChain_213 : decode cX12_laysChain 213 = .ok (.iconst 1, 1) := by decide +kernel
theorem dX12_laysChain_214 : decode cX12_laysChain 214 = .ok (.iadd, 1) := by decide +kernel
theorem dX12_laysChain_215 : decode cX12_laysChain 215 = .ok (.laload, 1) := by decide +kernel
theorem dX12_laysChain_216 : decode cX12_laysChain 216 = .ok (.lneg, 1) := by decide +kernel
theorem dX12_laysChain_217 : decode cX12_laysChain 217 = .ok (.aload_n 0, 1) := by decide +kernel
theorem dX12_laysChain_218 : decode cX12_laysChain 218 = .ok (.getfield 45, 3) := by decide +kernel
theorem dX12_laysChain_221 : decode cX12_laysChain 221 = .ok (.iload_n 1, 1) := by decide +kernel
theorem dX12_laysChain_222 : decode cX12_laysChain 222 = .ok (.iconst 1, 1) := by decide +kernel
theorem dX12_laysChain_223 : decode cX12_laysChain 223 = .ok (.iadd, 1) := by decide +kernel
theorem dX12_laysChain_224 : decode cX12_laysChain 224 = .ok (.laload, 1) := by decide +kernel
theorem dX12_laysChain_225 : decode cX12_laysChain 225 = .ok (.invokevirtual 205, 3) := by decide +kernel
theorem dX12_laysChain_228 : decode cX12_laysChain 228 = .ok (.aload_n 0, 1) := by decide +kernel
theorem dX12_laysChain_229 : decode cX12_laysChain 229 = .ok (.getfield 42, 3) := by decide +kernel
theorem dX12_laysChain_232 : decode cX12_laysChain 232 = .ok (.iload_n 1, 1) := by decide +kernel
theorem dX12_laysChain_233 : decode cX12_laysChain 233 = .ok (.aload_n 0, 1) := by decide +kernel
theorem dX12_laysChain_234 : decode cX12_laysChain 234 = .ok (.getfield 177, 3) := by decide +kernel
theorem dX12_laysChain_237 : decode cX12_laysChain 237 = .ok (.lastore, 1) := by decide +kernel
theorem dX12_laysChain_238 : decode cX12_laysChain 238 = .ok (.aload_n 0, 1) := by decide +kernel
theorem dX12_laysChain_239 : decode cX12_laysChain 239 = .ok (.getfield 45, 3) := by decide +kernel
theorem dX12_laysChain_242 : decode cX12_laysChain 242 = .ok (.iload_n 1, 1) := by decide +kernel
theorem dX12_laysChain_243 : decode cX12_laysChain 243 = .ok (.aload_n 0, 1) := by decide +kernel
theorem dX12_laysChain_244 : decode cX12_laysChain 244 = .ok (.getfield 181, 3) := by decide +kernel
theorem dX12_laysChain_247 : decode cX12_laysChain 247 = .ok (.lastore, 1) := by decide +kernel
theorem dX12_laysChain_248 : decode cX12_laysChain 248 = .ok (.iinc 1 (-1), 3) := by decide +kernel
theorem dX12_laysChain_251 : decode cX12_laysChain 251 = .ok (.goto (-221), 3) := by decide +kernel
theorem dX12_laysChain_254 : decode cX12_laysChain 254 = .ok (.iconst 1, 1) := by decide +kernel
theorem dX12_laysChain_255 : decode cX12_laysChain 255 = .ok (.ireturn, 1) := by decide +kernel
theorem dX12_chain_0 : decode cX12_chain 0 = .ok (.aload_n 0, 1) := by decide +kernel
theorem dX12_chain_1 : decode cX12_chain 1 = .ok (.getfield 145, 3) := by decide +kernel
theorem dX12_chain_4 : decode cX12_chain 4 = .ok (.ifCond .eq 35, 3) := by decide +kernel
theorem dX12_chain_7 : decode cX12_chain 7 = .ok (.iload_n 1, 1) := by decide +kernel
theorem dX12_chain_8 : decode cX12_chain 8 = .ok (.iconst 0, 1) := by decide +kernel
theorem dX12_chain_9 : decode cX12_chain 9 = .ok (.iconst 1, 1) := by decide +kernel
theorem dX12_chain_10 : decode cX12_chain 10 = .ok (.invokestatic 134, 3) := by decide +kernel
theorem dX12_chain_13 : decode cX12_chain 13 = .ok (.ifCond .eq 26, 3) := by decide +kernel
theorem dX12_chain_16 : decode cX12_chain 16 = .ok (.iload_n 2, 1) := by decide +kernel
theorem dX12_chain_17 : decode cX12_chain 17 = .ok (.iconst 0, 1) := by decide +kernel
theorem dX12_chain_18 : decode cX12_chain 18 = .ok (.aload_n 0, 1) := by decide +kernel
theorem dX12_chain_19 : decode cX12_chain 19 = .ok (.getfield 145, 3) := by decide +kernel
theorem dX12_chain_22 : decode cX12_chain 22 = .ok (.iconst 1, 1) := by decide +kernel
theorem dX12_chain_23 : decode cX12_chain 23 = .ok (.isub, 1) := by decide +kernel
theorem dX12_chain_24 : decode cX12_chain 24 = .ok (.invokestatic 134, 3) := by decide +kernel
theorem dX12_chain_27 : decode cX12_chain 27 = .ok (.ifCond .eq 12, 3) := by decide +kernel
theorem dX12_chain_30 : decode cX12_chain 30 = .ok (.iload_n 3, 1) := by decide +kernel
theorem dX12_chain_31 : decode cX12_chain 31 = .ok (.iconst 0, 1) := by decide +kernel
theorem dX12_chain_32 : decode cX12_chain 32 = .ok (.iconst 1, 1) := by decide +kernel
theorem dX12_chain_33 : decode cX12_chain 33 = .ok (.invokestatic 134, 3) := by decide +kernel
theorem dX12_chain_36 : decode cX12_chain 36 = .ok (.ifCond .ne 7, 3) := by decide +kernel
theorem dX12_chain_39 : decode cX12_chain 39 = .ok (.ldc2_w 156, 3) := by decide +kernel
theorem dX12_chain_42 : decode cX12_chain 42 = .ok (.lreturn, 1) := by decide +kernel
theorem dX12_chain_43 : decode cX12_chain 43 = .ok (.aload_n 0, 1) := by decide +kernel
theorem dX12_chain_44 : decode cX12_chain 44 = .ok (.invokevirtual 234, 3) := by decide +kernel
theorem dX12_chain_47 : decode cX12_chain 47 = .ok (.ifCond .ne 7, 3) := by decide +kernel
theorem dX12_chain_50 : decode cX12_chain 50 = .ok (.ldc2_w 232, 3) := by decide +kernel
theorem dX12_chain_53 : decode cX12_chain 53 = .ok (.lreturn, 1) := by decide +kernel
theorem dX12_chain_54 : decode cX12_chain 54 = .ok (.iload_n 1, 1) := by decide +kernel
theorem dX12_chain_55 : decode cX12_chain 55 = .ok (.ifCond .ne 23, 3) := by decide +kernel
theorem dX12_chain_58 : decode cX12_chain 58 = .ok (.iload_n 3, 1) := by decide +kernel
theorem dX12_chain_59 : decode cX12_chain 59 = .ok (.ifCond .ne 12, 3) := by decide +kernel
theorem dX12_chain_62 : decode cX12_chain 62 = .ok (.aload_n 0, 1) := by decide +kernel
theorem dX12_chain_63 : decode cX12_chain 63 = .ok (.getfield 36, 3) := by decide +kernel
theorem dX12_chain_66 : decode cX12_chain 66 = .ok (.iload_n 2, 1) := by decide +kernel
theorem dX12_chain_67 : decode cX12_chain 67 = .ok (.laload, 1) := by decide +kernel
theorem dX12_chain_68 : decode cX12_chain 68 = .ok (.goto 9, 3) := by decide +kernel
theorem dX12_chain_71 : decode cX12_chain 71 = .ok (.aload_n 0, 1) := by decide +kernel
theorem dX12_chain_72 : decode cX12_chain 72 = .ok (.getfield 39, 3) := by decide +kernel
theorem dX12_chain_75 : decode cX12_chain 75 = .ok (.iload_n 2, 1) := by decide +kernel
theorem dX12_chain_76 : decode cX12_chain 76 = .ok (.laload, 1) := by decide +kernel
theorem dX12_chain_77 : decode cX12_chain 77 = .ok (.lreturn, 1) := by decide +kernel
theorem dX12_chain_78 : decode cX12_chain 78 = .ok (.iload_n 3, 1) := by decide +kernel
theorem dX12_chain_79 : decode cX12_chain 79 = .ok (.ifCond .ne 12, 3) := by decide +kernel
theorem dX12_chain_82 : decode cX12_chain 82 = .ok (.aload_n 0, 1) := by decide +kernel
theorem dX12_chain_83 : decode cX12_chain 83 = .ok (.getfield 42, 3) := by decide +kernel
theorem dX12_chain_86 : decode cX12_chain 86 = .ok (.iload_n 2, 1) := by decide +kernel
theorem dX12_chain_87 : decode cX12_chain 87 = .ok (.laload, 1) := by decide +kernel
theorem dX12_chain_88 : decode cX12_chain 88 = .ok (.goto 9, 3) := by decide +kernel
theorem dX12_chain_91 : decode cX12_chain 91 = .ok (.aload_n 0, 1) := by decide +kernel
theorem dX12_chain_92 : decode cX12_chain 92 = .ok (.getfield 45, 3) := by decide +kernel
theorem dX12_chain_95 : decode cX12_chain 95 = .ok (.iload_n 2, 1) := by decide +kernel
theorem dX12_chain_96 : decode cX12_chain 96 = .ok (.laload, 1) := by decide +kernel
theorem dX12_chain_97 : decode cX12_chain 97 = .ok (.lreturn, 1) := by decide +kernel
theorem dX12_mass_0 : decode cX12_mass 0 = .ok (.aload_n 0, 1) := by decide +kernel
theorem dX12_mass_1 : decode cX12_mass 1 = .ok (.getfield 145, 3) := by decide +kernel
theorem dX12_mass_4 : decode cX12_mass 4 = .ok (.ifCond .eq 12, 3) := by decide +kernel
theorem dX12_mass_7 : decode cX12_mass 7 = .ok (.iload_n 1, 1) := by decide +kernel
theorem dX12_mass_8 : decode cX12_mass 8 = .ok (.iconst 0, 1) := by decide +kernel
theorem dX12_mass_9 : decode cX12_mass 9 = .ok (.iconst 1, 1) := by decide +kernel
theorem dX12_mass_10 : decode cX12_mass 10 = .ok (.invokestatic 134, 3) := by decide +kernel
theorem dX12_mass_13 : decode cX12_mass 13 = .ok (.ifCond .ne 7, 3) := by decide +kernel
theorem dX12_mass_16 : decode cX12_mass 16 = .ok (.ldc2_w 156, 3) := by decide +kernel
theorem dX12_mass_19 : decode cX12_mass 19 = .ok (.lreturn, 1) := by decide +kernel
theorem dX12_mass_20 : decode cX12_mass 20 = .ok (.aload_n 0, 1) := by decide +kernel
theorem dX12_mass_21 : decode cX12_mass 21 = .ok (.invokevirtual 234, 3) := by decide +kernel
theorem dX12_mass_24 : decode cX12_mass 24 = .ok (.ifCond .ne 7, 3) := by decide +kernel
theorem dX12_mass_27 : decode cX12_mass 27 = .ok (.ldc2_w 232, 3) := by decide +kernel
theorem dX12_mass_30 : decode cX12_mass 30 = .ok (.lreturn, 1) := by decide +kernel
theorem dX12_mass_31 : decode cX12_mass 31 = .ok (.aload_n 0, 1) := by decide +kernel
theorem dX12_mass_32 : decode cX12_mass 32 = .ok (.lconst 0, 1) := by decide +kernel
theorem dX12_mass_33 : decode cX12_mass 33 = .ok (.lconst 1, 1) := by decide +kernel
theorem dX12_mass_34 : decode cX12_mass 34 = .ok (.invokevirtual 191, 3) := by decide +kernel
theorem dX12_mass_37 : decode cX12_mass 37 = .ok (.iconst 0, 1) := by decide +kernel
theorem dX12_mass_38 : decode cX12_mass 38 = .ok (.istore_n 2, 1) := by decide +kernel
theorem dX12_mass_39 : decode cX12_mass 39 = .ok (.iload_n 2, 1) := by decide +kernel
theorem dX12_mass_40 : decode cX12_mass 40 = .ok (.aload_n 0, 1) := by decide +kernel
theorem dX12_mass_41 : decode cX12_mass 41 = .ok (.getfield 145, 3) := by decide +kernel
theorem dX12_mass_44 : decode cX12_mass 44 = .ok (.if_icmp .ge 25, 3) := by decide +kernel
theorem dX12_mass_47 : decode cX12_mass 47 = .ok (.aload_n 0, 1) := by decide +kernel
theorem dX12_mass_48 : decode cX12_mass 48 = .ok (.aload_n 0, 1) := by decide +kernel
theorem dX12_mass_49 : decode cX12_mass 49 = .ok (.getfield 36, 3) := by decide +kernel
theorem dX12_mass_52 : decode cX12_mass 52 = .ok (.iload_n 2, 1) := by decide +kernel
theorem dX12_mass_53 : decode cX12_mass 53 = .ok (.laload, 1) := by decide +kernel
theorem dX12_mass_54 : decode cX12_mass 54 = .ok (.aload_n 0, 1) := by decide +kernel
theorem dX12_mass_55 : decode cX12_mass 55 = .ok (.getfield 39, 3) := by decide +kernel
theorem dX12_mass_58 : decode cX12_mass 58 = .ok (.iload_n 2, 1) := by decide +kernel
theorem dX12_mass_59 : decode cX12_mass 59 = .ok (.laload, 1) := by decide +kernel
theorem dX12_mass_60 : decode cX12_mass 60 = .ok (.invokevirtual 205, 3) := by decide +kernel
theorem dX12_mass_63 : decode cX12_mass 63 = .ok (.iinc 2 1, 3) := by decide +kernel
theorem dX12_mass_66 : decode cX12_mass 66 = .ok (.goto (-27), 3) := by decide +kernel
theorem dX12_mass_69 : decode cX12_mass 69 = .ok (.aload_n 0, 1) := by decide +kernel
theorem dX12_mass_70 : decode cX12_mass 70 = .ok (.iload_n 1, 1) := by decide +kernel
theorem dX12_mass_71 : decode cX12_mass 71 = .ok (.invokevirtual 195, 3) := by decide +kernel
theorem dX12_mass_74 : decode cX12_mass 74 = .ok (.lreturn, 1) := by decide +kernel
theorem dX12_weighed_0 : decode cX12_weighed 0 = .ok (.aload_n 0, 1) := by decide +kernel
theorem dX12_weighed_1 : decode cX12_weighed 1 = .ok (.getfield 145, 3) := by decide +kernel
theorem dX12_weighed_4 : decode cX12_weighed 4 = .ok (.ifCond .eq 22, 3) := by decide +kernel
theorem dX12_weighed_7 : decode cX12_weighed 7 = .ok (.iload_n 1, 1) := by decide +kernel
theorem dX12_weighed_8 : decode cX12_weighed 8 = .ok (.iconst 0, 1) := by decide +kernel
theorem dX12_weighed_9 : decode cX12_weighed 9 = .ok (.bipush 7, 2) := by decide +kernel
theorem dX12_weighed_11 : decode cX12_weighed 11 = .ok (.invokestatic 134, 3) := by decide +kernel
theorem dX12_weighed_14 : decode cX12_weighed 14 = .ok (.ifCond .eq 12, 3) := by decide +kernel
theorem dX12_weighed_17 : decode cX12_weighed 17 = .ok (.iload_n 2, 1) := by decide +kernel
theorem dX12_weighed_18 : decode cX12_weighed 18 = .ok (.iconst 0, 1) := by decide +kernel
theorem dX12_weighed_19 : decode cX12_weighed 19 = .ok (.iconst 1, 1) := by decide +kernel
theorem dX12_weighed_20 : decode cX12_weighed 20 = .ok (.invokestatic 134, 3) := by decide +kernel
theorem dX12_weighed_23 : decode cX12_weighed 23 = .ok (.ifCond .ne 7, 3) := by decide +kernel
theorem dX12_weighed_26 : decode cX12_weighed 26 = .ok (.ldc2_w 156, 3) := by decide +kernel
theorem dX12_weighed_29 : decode cX12_weighed 29 = .ok (.lreturn, 1) := by decide +kernel
theorem dX12_weighed_30 : decode cX12_weighed 30 = .ok (.aload_n 0, 1) := by decide +kernel
theorem dX12_weighed_31 : decode cX12_weighed 31 = .ok (.invokevirtual 158, 3) := by decide +kernel
theorem dX12_weighed_34 : decode cX12_weighed 34 = .ok (.iload_n 2, 1) := by decide +kernel
theorem dX12_weighed_35 : decode cX12_weighed 35 = .ok (.ifCond .ne 12, 3) := by decide +kernel
theorem dX12_weighed_38 : decode cX12_weighed 38 = .ok (.aload_n 0, 1) := by decide +kernel
theorem dX12_weighed_39 : decode cX12_weighed 39 = .ok (.getfield 33, 3) := by decide +kernel
theorem dX12_weighed_42 : decode cX12_weighed 42 = .ok (.iload_n 1, 1) := by decide +kernel
theorem dX12_weighed_43 : decode cX12_weighed 43 = .ok (.laload, 1) := by decide +kernel
theorem dX12_weighed_44 : decode cX12_weighed 44 = .ok (.goto 4, 3) := by decide +kernel
theorem dX12_weighed_47 : decode cX12_weighed 47 = .ok (.lconst 1, 1) := by decide +kernel
theorem dX12_weighed_48 : decode cX12_weighed 48 = .ok (.lreturn, 1) := by decide +kernel
theorem dX12_kernel_0 : decode cX12_kernel 0 = .ok (.aload_n 0, 1) := by decide +kernel
theorem dX12_kernel_1 : decode cX12_kernel 1 = .ok (.getfield 145, 3) := by decide +kernel
theorem dX12_kernel_4 : decode cX12_kernel 4 = .ok (.ifCond .eq 23, 3) := by decide +kernel
theorem dX12_kernel_7 : decode cX12_kernel 7 = .ok (.iload_n 1, 1) := by decide +kernel
theorem dX12_kernel_8 : decode cX12_kernel 8 = .ok (.bipush (-8), 2) := by decide +kernel
theorem dX12_kernel_10 : decode cX12_kernel 10 = .ok (.bipush 8, 2) := by decide +kernel
theorem dX12_kernel_12 : decode cX12_kernel 12 = .ok (.invokestatic 134, 3) := by decide +kernel
theorem dX12_kernel_15 : decode cX12_kernel 15 = .ok (.ifCond .eq 12, 3) := by decide +kernel
theorem dX12_kernel_18 : decode cX12_kernel 18 = .ok (.iload_n 2, 1) := by decide +kernel
theorem dX12_kernel_19 : decode cX12_kernel 19 = .ok (.iconst 0, 1) := by decide +kernel
theorem dX12_kernel_20 : decode cX12_kernel 20 = .ok (.iconst 1, 1) := by decide +kernel
theorem dX12_kernel_21 : decode cX12_kernel 21 = .ok (.invokestatic 134, 3) := by decide +kernel
theorem dX12_kernel_24 : decode cX12_kernel 24 = .ok (.ifCond .ne 7, 3) := by decide +kernel
theorem dX12_kernel_27 : decode cX12_kernel 27 = .ok (.ldc2_w 156, 3) := by decide +kernel
theorem dX12_kernel_30 : decode cX12_kernel 30 = .ok (.lreturn, 1) := by decide +kernel
theorem dX12_kernel_31 : decode cX12_kernel 31 = .ok (.aload_n 0, 1) := by decide +kernel
theorem dX12_kernel_32 : decode cX12_kernel 32 = .ok (.invokevirtual 158, 3) := by decide +kernel
theorem dX12_kernel_35 : decode cX12_kernel 35 = .ok (.lconst 0, 1) := by decide +kernel
theorem dX12_kernel_36 : decode cX12_kernel 36 = .ok (.lstore_n 3, 1) := by decide +kernel
theorem dX12_kernel_37 : decode cX12_kernel 37 = .ok (.lconst 0, 1) := by decide +kernel
theorem dX12_kernel_38 : decode cX12_kernel 38 = .ok (.lstore 5, 2) := by decide +kernel
theorem dX12_kernel_40 : decode cX12_kernel 40 = .ok (.aload_n 0, 1) := by decide +kernel
theorem dX12_kernel_41 : decode cX12_kernel 41 = .ok (.getfield 145, 3) := by decide +kernel
theorem dX12_kernel_44 : decode cX12_kernel 44 = .ok (.istore 7, 2) := by decide +kernel
theorem dX12_kernel_46 : decode cX12_kernel 46 = .ok (.iload 7, 2) := by decide +kernel
theorem dX12_kernel_48 : decode cX12_kernel 48 = .ok (.ifCond .le 26, 3) := by decide +kernel
theorem dX12_kernel_51 : decode cX12_kernel 51 = .ok (.lload_n 3, 1) := by decide +kernel
theorem dX12_kernel_52 : decode cX12_kernel 52 = .ok (.iload_n 1, 1) := by decide +kernel
theorem dX12_kernel_53 : decode cX12_kernel 53 = .ok (.i2l, 1) := by decide +kernel
theorem dX12_kernel_54 : decode cX12_kernel 54 = .ok (.lmul, 1) := by decide +kernel
theorem dX12_kernel_55 : decode cX12_kernel 55 = .ok (.iload 7, 2) := by decide +kernel
theorem dX12_kernel_57 : decode cX12_kernel 57 = .ok (.i2l, 1) := by decide +kernel
theorem dX12_kernel_58 : decode cX12_kernel 58 = .ok (.aload_n 0, 1) := by decide +kernel
theorem dX12_kernel_59 : decode cX12_kernel 59 = .ok (.getfield 26, 3) := by decide +kernel
theorem dX12_kernel_62 : decode cX12_kernel 62 = .ok (.iload 7, 2) := by decide +kernel
theorem dX12_kernel_64 : decode cX12_kernel 64 = .ok (.laload, 1) := by decide +kernel
theorem dX12_kernel_65 : decode cX12_kernel 65 = .ok (.lmul, 1) := by decide +kernel
theorem dX12_kernel_66 : decode cX12_kernel 66 = .ok (.ladd, 1) := by decide +kernel
theorem dX12_kernel_67 : decode cX12_kernel 67 = .ok (.lstore_n 3, 1) := by decide +kernel
theorem dX12_kernel_68 : decode cX12_kernel 68 = .ok (.iinc 7 (-1), 3) := by decide +kernel
theorem dX12_kernel_71 : decode cX12_kernel 71 = .ok (.goto (-25), 3) := by decide +kernel
theorem dX12_kernel_74 : decode cX12_kernel 74 = .ok (.aload_n 0, 1) := by decide +kernel
theorem dX12_kernel_75 : decode cX12_kernel 75 = .ok (.getfield 145, 3) := by decide +kernel
theorem dX12_kernel_78 : decode cX12_kernel 78 = .ok (.iconst 1, 1) := by decide +kernel
theorem dX12_kernel_79 : decode cX12_kernel 79 = .ok (.isub, 1) := by decide +kernel
theorem dX12_kernel_80 : decode cX12_kernel 80 = .ok (.istore 7, 2) := by decide +kernel
theorem dX12_kernel_82 : decode cX12_kernel 82 = .ok (.iload 7, 2) := by decide +kernel
theorem dX12_kernel_84 : decode cX12_kernel 84 = .ok (.ifCond .le 33, 3) := by decide +kernel
theorem dX12_kernel_87 : decode cX12_kernel 87 = .ok (.lload 5, 2) := by decide +kernel
theorem dX12_kernel_89 : decode cX12_kernel 89 = .ok (.iload_n 1, 1) := by decide +kernel
theorem dX12_kernel_90 : decode cX12_kernel 90 = .ok (.i2l, 1) := by decide +kernel
theorem dX12_kernel_91 : decode cX12_kernel 91 = .ok (.lmul, 1) := by decide +kernel
theorem dX12_kernel_92 : decode cX12_kernel 92 = .ok (.iload 7, 2) := by decide +kernel
theorem dX12_kernel_94 : decode cX12_kernel 94 = .ok (.i2l, 1) := by decide +kernel
theorem dX12_kernel_95 : decode cX12_kernel 95 = .ok (.aload_n 0, 1) := by decide +kernel
theorem dX12_kernel_96 : decode cX12_kernel 96 = .ok (.aload_n 0, 1) := by decide +kernel
theorem dX12_kernel_97 : decode cX12_kernel 97 = .ok (.getfield 145, 3) := by decide +kernel
theorem dX12_kernel_100 : decode cX12_kernel 100 = .ok (.iconst 1, 1) := by decide +kernel
theorem dX12_kernel_101 : decode cX12_kernel 101 = .ok (.isub, 1) := by decide +kernel
theorem dX12_kernel_102 : decode cX12_kernel 102 = .ok (.iload 7, 2) := by decide +kernel
theorem dX12_kernel_104 : decode cX12_kernel 104 = .ok (.invokevirtual 217, 3) := by decide +kernel
theorem dX12_kernel_107 : decode cX12_kernel 107 = .ok (.lmul, 1) := by decide +kernel
theorem dX12_kernel_108 : decode cX12_kernel 108 = .ok (.ladd, 1) := by decide +kernel
theorem dX12_kernel_109 : decode cX12_kernel 109 = .ok (.lstore 5, 2) := by decide +kernel
theorem dX12_kernel_111 : decode cX12_kernel 111 = .ok (.iinc 7 (-1), 3) := by decide +kernel
theorem dX12_kernel_114 : decode cX12_kernel 114 = .ok (.goto (-32), 3) := by decide +kernel
theorem dX12_kernel_117 : decode cX12_kernel 117 = .ok (.aload_n 0, 1) := by decide +kernel
theorem dX12_kernel_118 : decode cX12_kernel 118 = .ok (.lload_n 3, 1) := by decide +kernel
theorem dX12_kernel_119 : decode cX12_kernel 119 = .ok (.aload_n 0, 1) := by decide +kernel
theorem dX12_kernel_120 : decode cX12_kernel 120 = .ok (.aload_n 0, 1) := by decide +kernel
theorem dX12_kernel_121 : decode cX12_kernel 121 = .ok (.getfield 145, 3) := by decide +kernel
theorem dX12_kernel_124 : decode cX12_kernel 124 = .ok (.iconst 1, 1) := by decide +kernel
theorem dX12_kernel_125 : decode cX12_kernel 125 = .ok (.isub, 1) := by decide +kernel
theorem dX12_kernel_126 : decode cX12_kernel 126 = .ok (.iload_n 1, 1) := by decide +kernel
theorem dX12_kernel_127 : decode cX12_kernel 127 = .ok (.i2l, 1) := by decide +kernel
theorem dX12_kernel_128 : decode cX12_kernel 128 = .ok (.invokevirtual 221, 3) := by decide +kernel
theorem dX12_kernel_131 : decode cX12_kernel 131 = .ok (.lmul, 1) := by decide +kernel
theorem dX12_kernel_132 : decode cX12_kernel 132 = .ok (.lload 5, 2) := by decide +kernel
theorem dX12_kernel_134 : decode cX12_kernel 134 = .ok (.aload_n 0, 1) := by decide +kernel
theorem dX12_kernel_135 : decode cX12_kernel 135 = .ok (.aload_n 0, 1) := by decide +kernel
theorem dX12_kernel_136 : decode cX12_kernel 136 = .ok (.getfield 145, 3) := by decide +kernel
theorem dX12_kernel_139 : decode cX12_kernel 139 = .ok (.iload_n 1, 1) := by decide +kernel
theorem dX12_kernel_140 : decode cX12_kernel 140 = .ok (.i2l, 1) := by decide +kernel
theorem dX12_kernel_141 : decode cX12_kernel 141 = .ok (.invokevirtual 221, 3) := by decide +kernel
theorem dX12_kernel_144 : decode cX12_kernel 144 = .ok (.lmul, 1) := by decide +kernel
theorem dX12_kernel_145 : decode cX12_kernel 145 = .ok (.lsub, 1) := by decide +kernel
theorem dX12_kernel_146 : decode cX12_kernel 146 = .ok (.aload_n 0, 1) := by decide +kernel
theorem dX12_kernel_147 : decode cX12_kernel 147 = .ok (.aload_n 0, 1) := by decide +kernel
theorem dX12_kernel_148 : decode cX12_kernel 148 = .ok (.getfield 145, 3) := by decide +kernel
theorem dX12_kernel_151 : decode cX12_kernel 151 = .ok (.invokevirtual 199, 3) := by decide +kernel
theorem dX12_kernel_154 : decode cX12_kernel 154 = .ok (.invokevirtual 191, 3) := by decide +kernel
theorem dX12_kernel_157 : decode cX12_kernel 157 = .ok (.aload_n 0, 1) := by decide +kernel
theorem dX12_kernel_158 : decode cX12_kernel 158 = .ok (.iload_n 2, 1) := by decide +kernel
theorem dX12_kernel_159 : decode cX12_kernel 159 = .ok (.invokevirtual 195, 3) := by decide +kernel
theorem dX12_kernel_162 : decode cX12_kernel 162 = .ok (.lreturn, 1) := by decide +kernel
theorem dX12_apart_0 : decode cX12_apart 0 = .ok (.aload_n 0, 1) := by decide +kernel
theorem dX12_apart_1 : decode cX12_apart 1 = .ok (.getfield 145, 3) := by decide +kernel
theorem dX12_apart_4 : decode cX12_apart 4 = .ok (.ifCond .ne 7, 3) := by decide +kernel
theorem dX12_apart_7 : decode cX12_apart 7 = .ok (.ldc2_w 156, 3) := by decide +kernel
theorem dX12_apart_10 : decode cX12_apart 10 = .ok (.lreturn, 1) := by decide +kernel
theorem dX12_apart_11 : decode cX12_apart 11 = .ok (.lconst 1, 1) := by decide +kernel
theorem dX12_apart_12 : decode cX12_apart 12 = .ok (.lstore_n 1, 1) := by decide +kernel
theorem dX12_apart_13 : decode cX12_apart 13 = .ok (.iconst 0, 1) := by decide +kernel
theorem dX12_apart_14 : decode cX12_apart 14 = .ok (.istore_n 3, 1) := by decide +kernel
theorem dX12_apart_15 : decode cX12_apart 15 = .ok (.iload_n 3, 1) := by decide +kernel
theorem dX12_apart_16 : decode cX12_apart 16 = .ok (.aload_n 0, 1) := by decide +kernel
theorem dX12_apart_17 : decode cX12_apart 17 = .ok (.getfield 145, 3) := by decide +kernel
theorem dX12_apart_20 : decode cX12_apart 20 = .ok (.if_icmp .ge 58, 3) := by decide +kernel
theorem dX12_apart_23 : decode cX12_apart 23 = .ok (.iconst 0, 1) := by decide +kernel
theorem dX12_apart_24 : decode cX12_apart 24 = .ok (.istore 4, 2) := by decide +kernel
theorem dX12_apart_26 : decode cX12_apart 26 = .ok (.iload 4, 2) := by decide +kernel
theorem dX12_apart_28 : decode cX12_apart 28 = .ok (.iload_n 3, 1) := by decide +kernel
theorem dX12_apart_29 : decode cX12_apart 29 = .ok (.if_icmp .ge 43, 3) := by decide +kernel
theorem dX12_apart_32 : decode cX12_apart 32 = .ok (.lload_n 1, 1) := by decide +kernel
theorem dX12_apart_33 : decode cX12_apart 33 = .ok (.aload_n 0, 1) := by decide +kernel
theorem dX12_apart_34 : decode cX12_apart 34 = .ok (.getfield 20, 3) := by decide +kernel
theorem dX12_apart_37 : decode cX12_apart 37 = .ok (.iload_n 3, 1) := by decide +kernel
theorem dX12_apart_38 : decode cX12_apart 38 = .ok (.iaload, 1) := by decide +kernel
theorem dX12_apart_39 : decode cX12_apart 39 = .ok (.aload_n 0, 1) := by decide +kernel
theorem dX12_apart_40 : decode cX12_apart 40 = .ok (.getfield 20, 3) := by decide +kernel
theorem dX12_apart_43 : decode cX12_apart 43 = .ok (.iload 4, 2) := by decide +kernel
theorem dX12_apart_45 : decode cX12_apart 45 = .ok (.iaload, 1) := by decide +kernel
theorem dX12_apart_46 : decode cX12_apart 46 = .ok (.isub, 1) := by decide +kernel
theorem dX12_apart_47 : decode cX12_apart 47 = .ok (.i2l, 1) := by decide +kernel
theorem dX12_apart_48 : decode cX12_apart 48 = .ok (.lmul, 1) := by decide +kernel
theorem dX12_apart_49 : decode cX12_apart 49 = .ok (.aload_n 0, 1) := by decide +kernel
theorem dX12_apart_50 : decode cX12_apart 50 = .ok (.getfield 20, 3) := by decide +kernel
theorem dX12_apart_53 : decode cX12_apart 53 = .ok (.iload_n 3, 1) := by decide +kernel
theorem dX12_apart_54 : decode cX12_apart 54 = .ok (.iaload, 1) := by decide +kernel
theorem dX12_apart_55 : decode cX12_apart 55 = .ok (.aload_n 0, 1) := by decide +kernel
theorem dX12_apart_56 : decode cX12_apart 56 = .ok (.getfield 20, 3) := by decide +kernel
theorem dX12_apart_59 : decode cX12_apart 59 = .ok (.iload 4, 2) := by decide +kernel
theorem dX12_apart_61 : decode cX12_apart 61 = .ok (.iaload, 1) := by decide +kernel
theorem dX12_apart_62 : decode cX12_apart 62 = .ok (.isub, 1) := by decide +kernel
theorem dX12_apart_63 : decode cX12_apart 63 = .ok (.i2l, 1) := by decide +kernel
theorem dX12_apart_64 : decode cX12_apart 64 = .ok (.lmul, 1) := by decide +kernel
theorem dX12_apart_65 : decode cX12_apart 65 = .ok (.lstore_n 1, 1) := by decide +kernel
theorem dX12_apart_66 : decode cX12_apart 66 = .ok (.iinc 4 1, 3) := by decide +kernel
theorem dX12_apart_69 : decode cX12_apart 69 = .ok (.goto (-43), 3) := by decide +kernel
theorem dX12_apart_72 : decode cX12_apart 72 = .ok (.iinc 3 1, 3) := by decide +kernel
theorem dX12_apart_75 : decode cX12_apart 75 = .ok (.goto (-60), 3) := by decide +kernel
theorem dX12_apart_78 : decode cX12_apart 78 = .ok (.lload_n 1, 1) := by decide +kernel
theorem dX12_apart_79 : decode cX12_apart 79 = .ok (.lreturn, 1) := by decide +kernel
theorem dX12_writes_0 : decode cX12_writes 0 = .ok (.aload_n 0, 1) := by decide +kernel
theorem dX12_writes_1 : decode cX12_writes 1 = .ok (.getfield 238, 3) := by decide +kernel
theorem dX12_writes_4 : decode cX12_writes 4 = .ok (.aload_n 0, 1) := by decide +kernel
theorem dX12_writes_5 : decode cX12_writes 5 = .ok (.getfield 241, 3) := by decide +kernel
theorem dX12_writes_8 : decode cX12_writes 8 = .ok (.if_icmp .ne 8, 3) := by decide +kernel
theorem dX12_writes_11 : decode cX12_writes 11 = .ok (.aload_n 0, 1) := by decide +kernel
theorem dX12_writes_12 : decode cX12_writes 12 = .ok (.iload_n 1, 1) := by decide +kernel
theorem dX12_writes_13 : decode cX12_writes 13 = .ok (.putfield 244, 3) := by decide +kernel
theorem dX12_writes_16 : decode cX12_writes 16 = .ok (.aload_n 0, 1) := by decide +kernel
theorem dX12_writes_17 : decode cX12_writes 17 = .ok (.aload_n 0, 1) := by decide +kernel
theorem dX12_writes_18 : decode cX12_writes 18 = .ok (.getfield 238, 3) := by decide +kernel
theorem dX12_writes_21 : decode cX12_writes 21 = .ok (.iconst 1, 1) := by decide +kernel
theorem dX12_writes_22 : decode cX12_writes 22 = .ok (.iadd, 1) := by decide +kernel
theorem dX12_writes_23 : decode cX12_writes 23 = .ok (.putfield 238, 3) := by decide +kernel
theorem dX12_writes_26 : decode cX12_writes 26 = .ok (.return_, 1) := by decide +kernel
theorem dX12_writesNumber_0 : decode cX12_writesNumber 0 = .ok (.iload_n 1, 1) := by decide +kernel
theorem dX12_writesNumber_1 : decode cX12_writesNumber 1 = .ok (.ifCond .ge 9, 3) := by decide +kernel
theorem dX12_writesNumber_4 : decode cX12_writesNumber 4 = .ok (.aload_n 0, 1) := by decide +kernel
theorem dX12_writesNumber_5 : decode cX12_writesNumber 5 = .ok (.bipush 45, 2) := by decide +kernel
theorem dX12_writesNumber_7 : decode cX12_writesNumber 7 = .ok (.invokevirtual 247, 3) := by decide +kernel
theorem dX12_writesNumber_10 : decode cX12_writesNumber 10 = .ok (.iload_n 1, 1) := by decide +kernel
theorem dX12_writesNumber_11 : decode cX12_writesNumber 11 = .ok (.ifCond .ge 8, 3) := by decide +kernel
theorem dX12_writesNumber_14 : decode cX12_writesNumber 14 = .ok (.iload_n 1, 1) := by decide +kernel
theorem dX12_writesNumber_15 : decode cX12_writesNumber 15 = .ok (.ineg, 1) := by decide +kernel
theorem dX12_writesNumber_16 : decode cX12_writesNumber 16 = .ok (.goto 4, 3) := by decide +kernel
theorem dX12_writesNumber_19 : decode cX12_writesNumber 19 = .ok (.iload_n 1, 1) := by decide +kernel
theorem dX12_writesNumber_20 : decode cX12_writesNumber 20 = .ok (.istore_n 2, 1) := by decide +kernel
theorem dX12_writesNumber_21 : decode cX12_writesNumber 21 = .ok (.iload_n 2, 1) := by decide +kernel
theorem dX12_writesNumber_22 : decode cX12_writesNumber 22 = .ok (.bipush 9, 2) := by decide +kernel
theorem dX12_writesNumber_24 : decode cX12_writesNumber 24 = .ok (.if_icmp .le 14, 3) := by decide +kernel
theorem dX12_writesNumber_27 : decode cX12_writesNumber 27 = .ok (.aload_n 0, 1) := by decide +kernel
theorem dX12_writesNumber_28 : decode cX12_writesNumber 28 = .ok (.bipush 48, 2) := by decide +kernel
theorem dX12_writesNumber_30 : decode cX12_writesNumber 30 = .ok (.iload_n 2, 1) := by decide +kernel
theorem dX12_writesNumber_31 : decode cX12_writesNumber 31 = .ok (.bipush 10, 2) := by decide +kernel
theorem dX12_writesNumber_33 : decode cX12_writesNumber 33 = .ok (.idiv, 1) := by decide +kernel
theorem dX12_writesNumber_34 : decode cX12_writesNumber 34 = .ok (.iadd, 1) := by decide +kernel
theorem dX12_writesNumber_35 : decode cX12_writesNumber 35 = .ok (.invokevirtual 247, 3) := by decide +kernel
theorem dX12_writesNumber_38 : decode cX12_writesNumber 38 = .ok (.aload_n 0, 1) := by decide +kernel
theorem dX12_writesNumber_39 : decode cX12_writesNumber 39 = .ok (.bipush 48, 2) := by decide +kernel
theorem dX12_writesNumber_41 : decode cX12_writesNumber 41 = .ok (.iload_n 2, 1) := by decide +kernel
theorem dX12_writesNumber_42 : decode cX12_writesNumber 42 = .ok (.bipush 10, 2) := by decide +kernel
theorem dX12_writesNumber_44 : decode cX12_writesNumber 44 = .ok (.irem, 1) := by decide +kernel
theorem dX12_writesNumber_45 : decode cX12_writesNumber 45 = .ok (.iadd, 1) := by decide +kernel
theorem dX12_writesNumber_46 : decode cX12_writesNumber 46 = .ok (.invokevirtual 247, 3) := by decide +kernel
theorem dX12_writesNumber_49 : decode cX12_writesNumber 49 = .ok (.return_, 1) := by decide +kernel
theorem dX12_letter_0 : decode cX12_letter 0 = .ok (.aload_n 0, 1) := by decide +kernel
theorem dX12_letter_1 : decode cX12_letter 1 = .ok (.getfield 145, 3) := by decide +kernel
theorem dX12_letter_4 : decode cX12_letter 4 = .ok (.ifCond .eq 8, 3) := by decide +kernel
theorem dX12_letter_7 : decode cX12_letter 7 = .ok (.iload_n 1, 1) := by decide +kernel
theorem dX12_letter_8 : decode cX12_letter 8 = .ok (.iconst (-1), 1) := by decide +kernel
theorem dX12_letter_9 : decode cX12_letter 9 = .ok (.if_icmp .ge 5, 3) := by decide +kernel
theorem dX12_letter_12 : decode cX12_letter 12 = .ok (.iconst (-1), 1) := by decide +kernel
theorem dX12_letter_13 : decode cX12_letter 13 = .ok (.ireturn, 1) := by decide +kernel
theorem dX12_letter_14 : decode cX12_letter 14 = .ok (.aload_n 0, 1) := by decide +kernel
theorem dX12_letter_15 : decode cX12_letter 15 = .ok (.iconst 0, 1) := by decide +kernel
theorem dX12_letter_16 : decode cX12_letter 16 = .ok (.putfield 238, 3) := by decide +kernel
theorem dX12_letter_19 : decode cX12_letter 19 = .ok (.aload_n 0, 1) := by decide +kernel
theorem dX12_letter_20 : decode cX12_letter 20 = .ok (.iload_n 1, 1) := by decide +kernel
theorem dX12_letter_21 : decode cX12_letter 21 = .ok (.putfield 241, 3) := by decide +kernel
theorem dX12_letter_24 : decode cX12_letter 24 = .ok (.iconst 0, 1) := by decide +kernel
theorem dX12_letter_25 : decode cX12_letter 25 = .ok (.istore_n 2, 1) := by decide +kernel
theorem dX12_letter_26 : decode cX12_letter 26 = .ok (.iload_n 2, 1) := by decide +kernel
theorem dX12_letter_27 : decode cX12_letter 27 = .ok (.aload_n 0, 1) := by decide +kernel
theorem dX12_letter_28 : decode cX12_letter 28 = .ok (.getfield 145, 3) := by decide +kernel
theorem dX12_letter_31 : decode cX12_letter 31 = .ok (.if_icmp .ge 29, 3) := by decide +kernel
theorem dX12_letter_34 : decode cX12_letter 34 = .ok (.iload_n 2, 1) := by decide +kernel
theorem dX12_letter_35 : decode cX12_letter 35 = .ok (.ifCond .le 9, 3) := by decide +kernel
theorem dX12_letter_38 : decode cX12_letter 38 = .ok (.aload_n 0, 1) := by decide +kernel
theorem dX12_letter_39 : decode cX12_letter 39 = .ok (.bipush 32, 2) := by decide +kernel
theorem dX12_letter_41 : decode cX12_letter 41 = .ok (.invokevirtual 247, 3) := by decide +kernel
theorem dX12_letter_44 : decode cX12_letter 44 = .ok (.aload_n 0, 1) := by decide +kernel
theorem dX12_letter_45 : decode cX12_letter 45 = .ok (.aload_n 0, 1) := by decide +kernel
theorem dX12_letter_46 : decode cX12_letter 46 = .ok (.getfield 20, 3) := by decide +kernel
theorem dX12_letter_49 : decode cX12_letter 49 = .ok (.iload_n 2, 1) := by decide +kernel
theorem dX12_letter_50 : decode cX12_letter 50 = .ok (.iaload, 1) := by decide +kernel
theorem dX12_letter_51 : decode cX12_letter 51 = .ok (.invokevirtual 250, 3) := by decide +kernel
theorem dX12_letter_54 : decode cX12_letter 54 = .ok (.iinc 2 1, 3) := by decide +kernel
theorem dX12_letter_57 : decode cX12_letter 57 = .ok (.goto (-31), 3) := by decide +kernel
theorem dX12_letter_60 : decode cX12_letter 60 = .ok (.aload_n 0, 1) := by decide +kernel
theorem dX12_letter_61 : decode cX12_letter 61 = .ok (.bipush 47, 2) := by decide +kernel
theorem dX12_letter_63 : decode cX12_letter 63 = .ok (.invokevirtual 247, 3) := by decide +kernel
theorem dX12_letter_66 : decode cX12_letter 66 = .ok (.iconst 0, 1) := by decide +kernel
theorem dX12_letter_67 : decode cX12_letter 67 = .ok (.istore_n 2, 1) := by decide +kernel
theorem dX12_letter_68 : decode cX12_letter 68 = .ok (.iload_n 2, 1) := by decide +kernel
theorem dX12_letter_69 : decode cX12_letter 69 = .ok (.aload_n 0, 1) := by decide +kernel
theorem dX12_letter_70 : decode cX12_letter 70 = .ok (.getfield 145, 3) := by decide +kernel
theorem dX12_letter_73 : decode cX12_letter 73 = .ok (.iconst 1, 1) := by decide +kernel
theorem dX12_letter_74 : decode cX12_letter 74 = .ok (.isub, 1) := by decide +kernel
theorem dX12_letter_75 : decode cX12_letter 75 = .ok (.if_icmp .ge 29, 3) := by decide +kernel
theorem dX12_letter_78 : decode cX12_letter 78 = .ok (.iload_n 2, 1) := by decide +kernel
theorem dX12_letter_79 : decode cX12_letter 79 = .ok (.ifCond .le 9, 3) := by decide +kernel
theorem dX12_letter_82 : decode cX12_letter 82 = .ok (.aload_n 0, 1) := by decide +kernel
theorem dX12_letter_83 : decode cX12_letter 83 = .ok (.bipush 32, 2) := by decide +kernel
theorem dX12_letter_85 : decode cX12_letter 85 = .ok (.invokevirtual 247, 3) := by decide +kernel
theorem dX12_letter_88 : decode cX12_letter 88 = .ok (.aload_n 0, 1) := by decide +kernel
theorem dX12_letter_89 : decode cX12_letter 89 = .ok (.aload_n 0, 1) := by decide +kernel
theorem dX12_letter_90 : decode cX12_letter 90 = .ok (.getfield 23, 3) := by decide +kernel
theorem dX12_letter_93 : decode cX12_letter 93 = .ok (.iload_n 2, 1) := by decide +kernel
theorem dX12_letter_94 : decode cX12_letter 94 = .ok (.iaload, 1) := by decide +kernel
theorem dX12_letter_95 : decode cX12_letter 95 = .ok (.invokevirtual 250, 3) := by decide +kernel
theorem dX12_letter_98 : decode cX12_letter 98 = .ok (.iinc 2 1, 3) := by decide +kernel
theorem dX12_letter_101 : decode cX12_letter 101 = .ok (.goto (-33), 3) := by decide +kernel
theorem dX12_letter_104 : decode cX12_letter 104 = .ok (.iload_n 1, 1) := by decide +kernel
theorem dX12_letter_105 : decode cX12_letter 105 = .ok (.iconst (-1), 1) := by decide +kernel
theorem dX12_letter_106 : decode cX12_letter 106 = .ok (.if_icmp .ne 10, 3) := by decide +kernel
theorem dX12_letter_109 : decode cX12_letter 109 = .ok (.aload_n 0, 1) := by decide +kernel
theorem dX12_letter_110 : decode cX12_letter 110 = .ok (.getfield 238, 3) := by decide +kernel
theorem dX12_letter_113 : decode cX12_letter 113 = .ok (.goto 20, 3) := by decide +kernel
theorem dX12_letter_116 : decode cX12_letter 116 = .ok (.iload_n 1, 1) := by decide +kernel
theorem dX12_letter_117 : decode cX12_letter 117 = .ok (.aload_n 0, 1) := by decide +kernel
theorem dX12_letter_118 : decode cX12_letter 118 = .ok (.getfield 238, 3) := by decide +kernel
theorem dX12_letter_121 : decode cX12_letter 121 = .ok (.if_icmp .ge 10, 3) := by decide +kernel
theorem dX12_letter_124 : decode cX12_letter 124 = .ok (.aload_n 0, 1) := by decide +kernel
theorem dX12_letter_125 : decode cX12_letter 125 = .ok (.getfield 244, 3) := by decide +kernel
theorem dX12_letter_128 : decode cX12_letter 128 = .ok (.goto 5, 3) := by decide +kernel
theorem dX12_letter_131 : decode cX12_letter 131 = .ok (.bipush (-3), 2) := by decide +kernel
theorem dX12_letter_133 : decode cX12_letter 133 = .ok (.ireturn, 1) := by decide +kernel
theorem dX12_mirror_0 : decode cX12_mirror 0 = .ok (.aload_n 0, 1) := by decide +kernel
theorem dX12_mirror_1 : decode cX12_mirror 1 = .ok (.getfield 145, 3) := by decide +kernel
theorem dX12_mirror_4 : decode cX12_mirror 4 = .ok (.ifCond .ne 5, 3) := by decide +kernel
theorem dX12_mirror_7 : decode cX12_mirror 7 = .ok (.iconst (-1), 1) := by decide +kernel
theorem dX12_mirror_8 : decode cX12_mirror 8 = .ok (.ireturn, 1) := by decide +kernel
theorem dX12_mirror_9 : decode cX12_mirror 9 = .ok (.iconst 0, 1) := by decide +kernel
theorem dX12_mirror_10 : decode cX12_mirror 10 = .ok (.istore_n 1, 1) := by decide +kernel
theorem dX12_mirror_11 : decode cX12_mirror 11 = .ok (.iload_n 1, 1) := by decide +kernel
theorem dX12_mirror_12 : decode cX12_mirror 12 = .ok (.aload_n 0, 1) := by decide +kernel
theorem dX12_mirror_13 : decode cX12_mirror 13 = .ok (.getfield 145, 3) := by decide +kernel
theorem dX12_mirror_16 : decode cX12_mirror 16 = .ok (.if_icmp .ge 29, 3) := by decide +kernel
theorem dX12_mirror_19 : decode cX12_mirror 19 = .ok (.aload_n 0, 1) := by decide +kernel
theorem dX12_mirror_20 : decode cX12_mirror 20 = .ok (.getfield 13, 3) := by decide +kernel
theorem dX12_mirror_23 : decode cX12_mirror 23 = .ok (.iload_n 1, 1) := by decide +kernel
theorem dX12_mirror_24 : decode cX12_mirror 24 = .ok (.aload_n 0, 1) := by decide +kernel
theorem dX12_mirror_25 : decode cX12_mirror 25 = .ok (.getfield 20, 3) := by decide +kernel
theorem dX12_mirror_28 : decode cX12_mirror 28 = .ok (.aload_n 0, 1) := by decide +kernel
theorem dX12_mirror_29 : decode cX12_mirror 29 = .ok (.getfield 145, 3) := by decide +kernel
theorem dX12_mirror_32 : decode cX12_mirror 32 = .ok (.iconst 1, 1) := by decide +kernel
theorem dX12_mirror_33 : decode cX12_mirror 33 = .ok (.isub, 1) := by decide +kernel
theorem dX12_mirror_34 : decode cX12_mirror 34 = .ok (.iload_n 1, 1) := by decide +kernel
theorem dX12_mirror_35 : decode cX12_mirror 35 = .ok (.isub, 1) := by decide +kernel
theorem dX12_mirror_36 : decode cX12_mirror 36 = .ok (.iaload, 1) := by decide +kernel
theorem dX12_mirror_37 : decode cX12_mirror 37 = .ok (.ineg, 1) := by decide +kernel
theorem dX12_mirror_38 : decode cX12_mirror 38 = .ok (.iastore, 1) := by decide +kernel
theorem dX12_mirror_39 : decode cX12_mirror 39 = .ok (.iinc 1 1, 3) := by decide +kernel
theorem dX12_mirror_42 : decode cX12_mirror 42 = .ok (.goto (-31), 3) := by decide +kernel
theorem dX12_mirror_45 : decode cX12_mirror 45 = .ok (.iconst 0, 1) := by decide +kernel
theorem dX12_mirror_46 : decode cX12_mirror 46 = .ok (.istore_n 1, 1) := by decide +kernel
theorem dX12_mirror_47 : decode cX12_mirror 47 = .ok (.iload_n 1, 1) := by decide +kernel
theorem dX12_mirror_48 : decode cX12_mirror 48 = .ok (.aload_n 0, 1) := by decide +kernel
theorem dX12_mirror_49 : decode cX12_mirror 49 = .ok (.getfield 145, 3) := by decide +kernel
theorem dX12_mirror_52 : decode cX12_mirror 52 = .ok (.iconst 1, 1) := by decide +kernel
theorem dX12_mirror_53 : decode cX12_mirror 53 = .ok (.isub, 1) := by decide +kernel
theorem dX12_mirror_54 : decode cX12_mirror 54 = .ok (.if_icmp .ge 29, 3) := by decide +kernel
theorem dX12_mirror_57 : decode cX12_mirror 57 = .ok (.aload_n 0, 1) := by decide +kernel
theorem dX12_mirror_58 : decode cX12_mirror 58 = .ok (.getfield 17, 3) := by decide +kernel
theorem dX12_mirror_61 : decode cX12_mirror 61 = .ok (.iload_n 1, 1) := by decide +kernel
theorem dX12_mirror_62 : decode cX12_mirror 62 = .ok (.aload_n 0, 1) := by decide +kernel
theorem dX12_mirror_63 : decode cX12_mirror 63 = .ok (.getfield 23, 3) := by decide +kernel
theorem dX12_mirror_66 : decode cX12_mirror 66 = .ok (.aload_n 0, 1) := by decide +kernel
theorem dX12_mirror_67 : decode cX12_mirror 67 = .ok (.getfield 145, 3) := by decide +kernel
theorem dX12_mirror_70 : decode cX12_mirror 70 = .ok (.iconst 2, 1) := by decide +kernel
theorem dX12_mirror_71 : decode cX12_mirror 71 = .ok (.isub, 1) := by decide +kernel
theorem dX12_mirror_72 : decode cX12_mirror 72 = .ok (.iload_n 1, 1) := by decide +kernel
theorem dX12_mirror_73 : decode cX12_mirror 73 = .ok (.isub, 1) := by decide +kernel
theorem dX12_mirror_74 : decode cX12_mirror 74 = .ok (.iaload, 1) := by decide +kernel
theorem dX12_mirror_75 : decode cX12_mirror 75 = .ok (.ineg, 1) := by decide +kernel
theorem dX12_mirror_76 : decode cX12_mirror 76 = .ok (.iastore, 1) := by decide +kernel
theorem dX12_mirror_77 : decode cX12_mirror 77 = .ok (.iinc 1 1, 3) := by decide +kernel
theorem dX12_mirror_80 : decode cX12_mirror 80 = .ok (.goto (-33), 3) := by decide +kernel
theorem dX12_mirror_83 : decode cX12_mirror 83 = .ok (.iconst 0, 1) := by decide +kernel
theorem dX12_mirror_84 : decode cX12_mirror 84 = .ok (.istore_n 1, 1) := by decide +kernel
theorem dX12_mirror_85 : decode cX12_mirror 85 = .ok (.iload_n 1, 1) := by decide +kernel
theorem dX12_mirror_86 : decode cX12_mirror 86 = .ok (.aload_n 0, 1) := by decide +kernel
theorem dX12_mirror_87 : decode cX12_mirror 87 = .ok (.getfield 145, 3) := by decide +kernel
theorem dX12_mirror_90 : decode cX12_mirror 90 = .ok (.if_icmp .ge 21, 3) := by decide +kernel
theorem dX12_mirror_93 : decode cX12_mirror 93 = .ok (.aload_n 0, 1) := by decide +kernel
theorem dX12_mirror_94 : decode cX12_mirror 94 = .ok (.getfield 20, 3) := by decide +kernel
theorem dX12_mirror_97 : decode cX12_mirror 97 = .ok (.iload_n 1, 1) := by decide +kernel
theorem dX12_mirror_98 : decode cX12_mirror 98 = .ok (.aload_n 0, 1) := by decide +kernel
theorem dX12_mirror_99 : decode cX12_mirror 99 = .ok (.getfield 13, 3) := by decide +kernel
theorem dX12_mirror_102 : decode cX12_mirror 102 = .ok (.iload_n 1, 1) := by decide +kernel
theorem dX12_mirror_103 : decode cX12_mirror 103 = .ok (.iaload, 1) := by decide +kernel
theorem dX12_mirror_104 : decode cX12_mirror 104 = .ok (.iastore, 1) := by decide +kernel
theorem dX12_mirror_105 : decode cX12_mirror 105 = .ok (.iinc 1 1, 3) := by decide +kernel
theorem dX12_mirror_108 : decode cX12_mirror 108 = .ok (.goto (-23), 3) := by decide +kernel
theorem dX12_mirror_111 : decode cX12_mirror 111 = .ok (.iconst 0, 1) := by decide +kernel
theorem dX12_mirror_112 : decode cX12_mirror 112 = .ok (.istore_n 1, 1) := by decide +kernel
theorem dX12_mirror_113 : decode cX12_mirror 113 = .ok (.iload_n 1, 1) := by decide +kernel
theorem dX12_mirror_114 : decode cX12_mirror 114 = .ok (.aload_n 0, 1) := by decide +kernel
theorem dX12_mirror_115 : decode cX12_mirror 115 = .ok (.getfield 145, 3) := by decide +kernel
theorem dX12_mirror_118 : decode cX12_mirror 118 = .ok (.iconst 1, 1) := by decide +kernel
theorem dX12_mirror_119 : decode cX12_mirror 119 = .ok (.isub, 1) := by decide +kernel
theorem dX12_mirror_120 : decode cX12_mirror 120 = .ok (.if_icmp .ge 21, 3) := by decide +kernel
theorem dX12_mirror_123 : decode cX12_mirror 123 = .ok (.aload_n 0, 1) := by decide +kernel
theorem dX12_mirror_124 : decode cX12_mirror 124 = .ok (.getfield 23, 3) := by decide +kernel
theorem dX12_mirror_127 : decode cX12_mirror 127 = .ok (.iload_n 1, 1) := by decide +kernel
theorem dX12_mirror_128 : decode cX12_mirror 128 = .ok (.aload_n 0, 1) := by decide +kernel
theorem dX12_mirror_129 : decode cX12_mirror 129 = .ok (.getfield 17, 3) := by decide +kernel
theorem dX12_mirror_132 : decode cX12_mirror 132 = .ok (.iload_n 1, 1) := by decide +kernel
theorem dX12_mirror_133 : decode cX12_mirror 133 = .ok (.iaload, 1) := by decide +kernel
theorem dX12_mirror_134 : decode cX12_mirror 134 = .ok (.iastore, 1) := by decide +kernel
theorem dX12_mirror_135 : decode cX12_mirror 135 = .ok (.iinc 1 1, 3) := by decide +kernel
theorem dX12_mirror_138 : decode cX12_mirror 138 = .ok (.goto (-25), 3) := by decide +kernel
theorem dX12_mirror_141 : decode cX12_mirror 141 = .ok (.aload_n 0, 1) := by decide +kernel
theorem dX12_mirror_142 : decode cX12_mirror 142 = .ok (.getfield 145, 3) := by decide +kernel
theorem dX12_mirror_145 : decode cX12_mirror 145 = .ok (.ireturn, 1) := by decide +kernel
theorem dX12_shift_0 : decode cX12_shift 0 = .ok (.aload_n 0, 1) := by decide +kernel
theorem dX12_shift_1 : decode cX12_shift 1 = .ok (.getfield 145, 3) := by decide +kernel
theorem dX12_shift_4 : decode cX12_shift 4 = .ok (.ifCond .eq 14, 3) := by decide +kernel
theorem dX12_shift_7 : decode cX12_shift 7 = .ok (.iload_n 1, 1) := by decide +kernel
theorem dX12_shift_8 : decode cX12_shift 8 = .ok (.bipush (-12), 2) := by decide +kernel
theorem dX12_shift_10 : decode cX12_shift 10 = .ok (.bipush 12, 2) := by decide +kernel
theorem dX12_shift_12 : decode cX12_shift 12 = .ok (.invokestatic 134, 3) := by decide +kernel
theorem dX12_shift_15 : decode cX12_shift 15 = .ok (.ifCond .ne 5, 3) := by decide +kernel
theorem dX12_shift_18 : decode cX12_shift 18 = .ok (.iconst (-1), 1) := by decide +kernel
theorem dX12_shift_19 : decode cX12_shift 19 = .ok (.ireturn, 1) := by decide +kernel
theorem dX12_shift_20 : decode cX12_shift 20 = .ok (.aload_n 0, 1) := by decide +kernel
theorem dX12_shift_21 : decode cX12_shift 21 = .ok (.getfield 20, 3) := by decide +kernel
theorem dX12_shift_24 : decode cX12_shift 24 = .ok (.iconst 0, 1) := by decide +kernel
theorem dX12_shift_25 : decode cX12_shift 25 = .ok (.iaload, 1) := by decide +kernel
theorem dX12_shift_26 : decode cX12_shift 26 = .ok (.iload_n 1, 1) := by decide +kernel
theorem dX12_shift_27 : decode cX12_shift 27 = .ok (.iadd, 1) := by decide +kernel
theorem dX12_shift_28 : decode cX12_shift 28 = .ok (.bipush (-6), 2) := by decide +kernel
theorem dX12_shift_30 : decode cX12_shift 30 = .ok (.if_icmp .lt 21, 3) := by decide +kernel
theorem dX12_shift_33 : decode cX12_shift 33 = .ok (.aload_n 0, 1) := by decide +kernel
theorem dX12_shift_34 : decode cX12_shift 34 = .ok (.getfield 20, 3) := by decide +kernel
theorem dX12_shift_37 : decode cX12_shift 37 = .ok (.aload_n 0, 1) := by decide +kernel
theorem dX12_shift_38 : decode cX12_shift 38 = .ok (.getfield 145, 3) := by decide +kernel
theorem dX12_shift_41 : decode cX12_shift 41 = .ok (.iconst 1, 1) := by decide +kernel
theorem dX12_shift_42 : decode cX12_shift 42 = .ok (.isub, 1) := by decide +kernel
theorem dX12_shift_43 : decode cX12_shift 43 = .ok (.iaload, 1) := by decide +kernel
theorem dX12_shift_44 : decode cX12_shift 44 = .ok (.iload_n 1, 1) := by decide +kernel
theorem dX12_shift_45 : decode cX12_shift 45 = .ok (.iadd, 1) := by decide +kernel
theorem dX12_shift_46 : decode cX12_shift 46 = .ok (.bipush 6, 2) := by decide +kernel
theorem dX12_shift_48 : decode cX12_shift 48 = .ok (.if_icmp .le 6, 3) := by decide +kernel
theorem dX12_shift_51 : decode cX12_shift 51 = .ok (.bipush (-3), 2) := by decide +kernel
theorem dX12_shift_53 : decode cX12_shift 53 = .ok (.ireturn, 1) := by decide +kernel
theorem dX12_shift_54 : decode cX12_shift 54 = .ok (.iconst 0, 1) := by decide +kernel
theorem dX12_shift_55 : decode cX12_shift 55 = .ok (.istore_n 2, 1) := by decide +kernel
theorem dX12_shift_56 : decode cX12_shift 56 = .ok (.iload_n 2, 1) := by decide +kernel
theorem dX12_shift_57 : decode cX12_shift 57 = .ok (.aload_n 0, 1) := by decide +kernel
theorem dX12_shift_58 : decode cX12_shift 58 = .ok (.getfield 145, 3) := by decide +kernel
theorem dX12_shift_61 : decode cX12_shift 61 = .ok (.if_icmp .ge 23, 3) := by decide +kernel
theorem dX12_shift_64 : decode cX12_shift 64 = .ok (.aload_n 0, 1) := by decide +kernel
theorem dX12_shift_65 : decode cX12_shift 65 = .ok (.getfield 20, 3) := by decide +kernel
theorem dX12_shift_68 : decode cX12_shift 68 = .ok (.iload_n 2, 1) := by decide +kernel
theorem dX12_shift_69 : decode cX12_shift 69 = .ok (.aload_n 0, 1) := by decide +kernel
theorem dX12_shift_70 : decode cX12_shift 70 = .ok (.getfield 20, 3) := by decide +kernel
theorem dX12_shift_73 : decode cX12_shift 73 = .ok (.iload_n 2, 1) := by decide +kernel
theorem dX12_shift_74 : decode cX12_shift 74 = .ok (.iaload, 1) := by decide +kernel
theorem dX12_shift_75 : decode cX12_shift 75 = .ok (.iload_n 1, 1) := by decide +kernel
theorem dX12_shift_76 : decode cX12_shift 76 = .ok (.iadd, 1) := by decide +kernel
theorem dX12_shift_77 : decode cX12_shift 77 = .ok (.iastore, 1) := by decide +kernel
theorem dX12_shift_78 : decode cX12_shift 78 = .ok (.iinc 2 1, 3) := by decide +kernel
theorem dX12_shift_81 : decode cX12_shift 81 = .ok (.goto (-25), 3) := by decide +kernel
theorem dX12_shift_84 : decode cX12_shift 84 = .ok (.iconst 0, 1) := by decide +kernel
theorem dX12_shift_85 : decode cX12_shift 85 = .ok (.istore_n 2, 1) := by decide +kernel
theorem dX12_shift_86 : decode cX12_shift 86 = .ok (.iload_n 2, 1) := by decide +kernel
theorem dX12_shift_87 : decode cX12_shift 87 = .ok (.aload_n 0, 1) := by decide +kernel
theorem dX12_shift_88 : decode cX12_shift 88 = .ok (.getfield 145, 3) := by decide +kernel
theorem dX12_shift_91 : decode cX12_shift 91 = .ok (.iconst 1, 1) := by decide +kernel
theorem dX12_shift_92 : decode cX12_shift 92 = .ok (.isub, 1) := by decide +kernel
theorem dX12_shift_93 : decode cX12_shift 93 = .ok (.if_icmp .ge 23, 3) := by decide +kernel
theorem dX12_shift_96 : decode cX12_shift 96 = .ok (.aload_n 0, 1) := by decide +kernel
theorem dX12_shift_97 : decode cX12_shift 97 = .ok (.getfield 23, 3) := by decide +kernel
theorem dX12_shift_100 : decode cX12_shift 100 = .ok (.iload_n 2, 1) := by decide +kernel
theorem dX12_shift_101 : decode cX12_shift 101 = .ok (.aload_n 0, 1) := by decide +kernel
theorem dX12_shift_102 : decode cX12_shift 102 = .ok (.getfield 23, 3) := by decide +kernel
theorem dX12_shift_105 : decode cX12_shift 105 = .ok (.iload_n 2, 1) := by decide +kernel
theorem dX12_shift_106 : decode cX12_shift 106 = .ok (.iaload, 1) := by decide +kernel
theorem dX12_shift_107 : decode cX12_shift 107 = .ok (.iload_n 1, 1) := by decide +kernel
theorem dX12_shift_108 : decode cX12_shift 108 = .ok (.iadd, 1) := by decide +kernel
theorem dX12_shift_109 : decode cX12_shift 109 = .ok (.iastore, 1) := by decide +kernel
theorem dX12_shift_110 : decode cX12_shift 110 = .ok (.iinc 2 1, 3) := by decide +kernel
theorem dX12_shift_113 : decode cX12_shift 113 = .ok (.goto (-27), 3) := by decide +kernel
theorem dX12_shift_116 : decode cX12_shift 116 = .ok (.aload_n 0, 1) := by decide +kernel
theorem dX12_shift_117 : decode cX12_shift 117 = .ok (.getfield 145, 3) := by decide +kernel
theorem dX12_shift_120 : decode cX12_shift 120 = .ok (.ireturn, 1) := by decide +kernel
theorem dX12_tune_0 : decode cX12_tune 0 = .ok (.aload_n 0, 1) := by decide +kernel
theorem dX12_tune_1 : decode cX12_tune 1 = .ok (.getfield 145, 3) := by decide +kernel
theorem dX12_tune_4 : decode cX12_tune 4 = .ok (.ifCond .eq 41, 3) := by decide +kernel
theorem dX12_tune_7 : decode cX12_tune 7 = .ok (.iload_n 2, 1) := by decide +kernel
theorem dX12_tune_8 : decode cX12_tune 8 = .ok (.iconst 0, 1) := by decide +kernel
theorem dX12_tune_9 : decode cX12_tune 9 = .ok (.iload_n 1, 1) := by decide +kernel
theorem dX12_tune_10 : decode cX12_tune 10 = .ok (.ifCond .eq 12, 3) := by decide +kernel
theorem dX12_tune_13 : decode cX12_tune 13 = .ok (.aload_n 0, 1) := by decide +kernel
theorem dX12_tune_14 : decode cX12_tune 14 = .ok (.getfield 145, 3) := by decide +kernel
theorem dX12_tune_17 : decode cX12_tune 17 = .ok (.iconst 1, 1) := by decide +kernel
theorem dX12_tune_18 : decode cX12_tune 18 = .ok (.isub, 1) := by decide +kernel
theorem dX12_tune_19 : decode cX12_tune 19 = .ok (.goto 9, 3) := by decide +kernel
theorem dX12_tune_22 : decode cX12_tune 22 = .ok (.aload_n 0, 1) := by decide +kernel
theorem dX12_tune_23 : decode cX12_tune 23 = .ok (.getfield 145, 3) := by decide +kernel
theorem dX12_tune_26 : decode cX12_tune 26 = .ok (.iconst 2, 1) := by decide +kernel
theorem dX12_tune_27 : decode cX12_tune 27 = .ok (.isub, 1) := by decide +kernel
theorem dX12_tune_28 : decode cX12_tune 28 = .ok (.invokestatic 134, 3) := by decide +kernel
theorem dX12_tune_31 : decode cX12_tune 31 = .ok (.ifCond .eq 14, 3) := by decide +kernel
theorem dX12_tune_34 : decode cX12_tune 34 = .ok (.iload_n 3, 1) := by decide +kernel
theorem dX12_tune_35 : decode cX12_tune 35 = .ok (.bipush (-6), 2) := by decide +kernel
theorem dX12_tune_37 : decode cX12_tune 37 = .ok (.bipush 6, 2) := by decide +kernel
theorem dX12_tune_39 : decode cX12_tune 39 = .ok (.invokestatic 134, 3) := by decide +kernel
theorem dX12_tune_42 : decode cX12_tune 42 = .ok (.ifCond .ne 5, 3) := by decide +kernel
theorem dX12_tune_45 : decode cX12_tune 45 = .ok (.iconst (-1), 1) := by decide +kernel
theorem dX12_tune_46 : decode cX12_tune 46 = .ok (.ireturn, 1) := by decide +kernel
theorem dX12_tune_47 : decode cX12_tune 47 = .ok (.iload_n 1, 1) := by decide +kernel
theorem dX12_tune_48 : decode cX12_tune 48 = .ok (.ifCond .eq 52, 3) := by decide +kernel
theorem dX12_tune_51 : decode cX12_tune 51 = .ok (.iload_n 2, 1) := by decide +kernel
theorem dX12_tune_52 : decode cX12_tune 52 = .ok (.ifCond .le 15, 3) := by decide +kernel
theorem dX12_tune_55 : decode cX12_tune 55 = .ok (.iload_n 3, 1) := by decide +kernel
theorem dX12_tune_56 : decode cX12_tune 56 = .ok (.aload_n 0, 1) := by decide +kernel
theorem dX12_tune_57 : decode cX12_tune 57 = .ok (.getfield 23, 3) := by decide +kernel
theorem dX12_tune_60 : decode cX12_tune 60 = .ok (.iload_n 2, 1) := by decide +kernel
theorem dX12_tune_61 : decode cX12_tune 61 = .ok (.iconst 1, 1) := by decide +kernel
theorem dX12_tune_62 : decode cX12_tune 62 = .ok (.isub, 1) := by decide +kernel
theorem dX12_tune_63 : decode cX12_tune 63 = .ok (.iaload, 1) := by decide +kernel
theorem dX12_tune_64 : decode cX12_tune 64 = .ok (.if_icmp .le 23, 3) := by decide +kernel
theorem dX12_tune_67 : decode cX12_tune 67 = .ok (.iload_n 2, 1) := by decide +kernel
theorem dX12_tune_68 : decode cX12_tune 68 = .ok (.aload_n 0, 1) := by decide +kernel
theorem dX12_tune_69 : decode cX12_tune 69 = .ok (.getfield 145, 3) := by decide +kernel
theorem dX12_tune_72 : decode cX12_tune 72 = .ok (.iconst 1, 1) := by decide +kernel
theorem dX12_tune_73 : decode cX12_tune 73 = .ok (.isub, 1) := by decide +kernel
theorem dX12_tune_74 : decode cX12_tune 74 = .ok (.if_icmp .ge 16, 3) := by decide +kernel
theorem dX12_tune_77 : decode cX12_tune 77 = .ok (.iload_n 3, 1) := by decide +kernel
theorem dX12_tune_78 : decode cX12_tune 78 = .ok (.aload_n 0, 1) := by decide +kernel
theorem dX12_tune_79 : decode cX12_tune 79 = .ok (.getfield 23, 3) := by decide +kernel
theorem dX12_tune_82 : decode cX12_tune 82 = .ok (.iload_n 2, 1) := by decide +kernel
theorem dX12_tune_83 : decode cX12_tune 83 = .ok (.iaload, 1) := by decide +kernel
theorem dX12_tune_84 : decode cX12_tune 84 = .ok (.if_icmp .lt 6, 3) := by decide +kernel
theorem dX12_tune_87 : decode cX12_tune 87 = .ok (.bipush (-3), 2) := by decide +kernel
theorem dX12_tune_89 : decode cX12_tune 89 = .ok (.ireturn, 1) := by decide +kernel
theorem dX12_tune_90 : decode cX12_tune 90 = .ok (.aload_n 0, 1) := by decide +kernel
theorem dX12_tune_91 : decode cX12_tune 91 = .ok (.getfield 20, 3) := by decide +kernel
theorem dX12_tune_94 : decode cX12_tune 94 = .ok (.iload_n 2, 1) := by decide +kernel
theorem dX12_tune_95 : decode cX12_tune 95 = .ok (.iload_n 3, 1) := by decide +kernel
theorem dX12_tune_96 : decode cX12_tune 96 = .ok (.iastore, 1) := by decide +kernel
theorem dX12_tune_97 : decode cX12_tune 97 = .ok (.goto 35, 3) := by decide +kernel
theorem dX12_tune_100 : decode cX12_tune 100 = .ok (.iload_n 3, 1) := by decide +kernel
theorem dX12_tune_101 : decode cX12_tune 101 = .ok (.aload_n 0, 1) := by decide +kernel
theorem dX12_tune_102 : decode cX12_tune 102 = .ok (.getfield 20, 3) := by decide +kernel
theorem dX12_tune_105 : decode cX12_tune 105 = .ok (.iload_n 2, 1) := by decide +kernel
theorem dX12_tune_106 : decode cX12_tune 106 = .ok (.iaload, 1) := by decide +kernel
theorem dX12_tune_107 : decode cX12_tune 107 = .ok (.if_icmp .le 15, 3) := by decide +kernel
theorem dX12_tune_110 : decode cX12_tune 110 = .ok (.iload_n 3, 1) := by decide +kernel
theorem dX12_tune_111 : decode cX12_tune 111 = .ok (.aload_n 0, 1) := by decide +kernel
theorem dX12_tune_112 : decode cX12_tune 112 = .ok (.getfield 20, 3) := by decide +kernel
theorem dX12_tune_115 : decode cX12_tune 115 = .ok (.iload_n 2, 1) := by decide +kernel
theorem dX12_tune_116 : decode cX12_tune 116 = .ok (.iconst 1, 1) := by decide +kernel
theorem dX12_tune_117 : decode cX12_tune 117 = .ok (.iadd, 1) := by decide +kernel
theorem dX12_tune_118 : decode cX12_tune 118 = .ok (.iaload, 1) := by decide +kernel
theorem dX12_tune_119 : decode cX12_tune 119 = .ok (.if_icmp .lt 6, 3) := by decide +kernel
theorem dX12_tune_122 : decode cX12_tune 122 = .ok (.bipush (-3), 2) := by decide +kernel
theorem dX12_tune_124 : decode cX12_tune 124 = .ok (.ireturn, 1) := by decide +kernel
theorem dX12_tune_125 : decode cX12_tune 125 = .ok (.aload_n 0, 1) := by decide +kernel
theorem dX12_tune_126 : decode cX12_tune 126 = .ok (.getfield 23, 3) := by decide +kernel
theorem dX12_tune_129 : decode cX12_tune 129 = .ok (.iload_n 2, 1) := by decide +kernel
theorem dX12_tune_130 : decode cX12_tune 130 = .ok (.iload_n 3, 1) := by decide +kernel
theorem dX12_tune_131 : decode cX12_tune 131 = .ok (.iastore, 1) := by decide +kernel
theorem dX12_tune_132 : decode cX12_tune 132 = .ok (.aload_n 0, 1) := by decide +kernel
theorem dX12_tune_133 : decode cX12_tune 133 = .ok (.getfield 145, 3) := by decide +kernel
theorem dX12_tune_136 : decode cX12_tune 136 = .ok (.ireturn, 1) := by decide +kernel
theorem dX12_isDrawer_0 : decode cX12_isDrawer 0 = .ok (.iload_n 0, 1) := by decide +kernel
theorem dX12_isDrawer_1 : decode cX12_isDrawer 1 = .ok (.iconst 0, 1) := by decide +kernel
theorem dX12_isDrawer_2 : decode cX12_isDrawer 2 = .ok (.iconst 3, 1) := by decide +kernel
theorem dX12_isDrawer_3 : decode cX12_isDrawer 3 = .ok (.invokestatic 134, 3) := by decide +kernel
theorem dX12_isDrawer_6 : decode cX12_isDrawer 6 = .ok (.ireturn, 1) := by decide +kernel
theorem dX12_a_0 : decode cX12_a 0 = .ok (.aload_n 0, 1) := by decide +kernel
theorem dX12_a_1 : decode cX12_a 1 = .ok (.getfield 51, 3) := by decide +kernel
theorem dX12_a_4 : decode cX12_a 4 = .ok (.iconst 5, 1) := by decide +kernel
theorem dX12_a_5 : decode cX12_a 5 = .ok (.iload_n 1, 1) := by decide +kernel
theorem dX12_a_6 : decode cX12_a 6 = .ok (.imul, 1) := by decide +kernel
theorem dX12_a_7 : decode cX12_a 7 = .ok (.iload_n 2, 1) := by decide +kernel
theorem dX12_a_8 : decode cX12_a 8 = .ok (.iadd, 1) := by decide +kernel
theorem dX12_a_9 : decode cX12_a 9 = .ok (.iaload, 1) := by decide +kernel
theorem dX12_a_10 : decode cX12_a 10 = .ok (.ireturn, 1) := by decide +kernel
theorem dX12_c_0 : decode cX12_c 0 = .ok (.aload_n 0, 1) := by decide +kernel
theorem dX12_c_1 : decode cX12_c 1 = .ok (.getfield 54, 3) := by decide +kernel
theorem dX12_c_4 : decode cX12_c 4 = .ok (.iconst 5, 1) := by decide +kernel
theorem dX12_c_5 : decode cX12_c 5 = .ok (.iload_n 1, 1) := by decide +kernel
theorem dX12_c_6 : decode cX12_c 6 = .ok (.imul, 1) := by decide +kernel
theorem dX12_c_7 : decode cX12_c 7 = .ok (.iload_n 2, 1) := by decide +kernel
theorem dX12_c_8 : decode cX12_c 8 = .ok (.iadd, 1) := by decide +kernel
theorem dX12_c_9 : decode cX12_c 9 = .ok (.iaload, 1) := by decide +kernel
theorem dX12_c_10 : decode cX12_c 10 = .ok (.ireturn, 1) := by decide +kernel
theorem dX12_table_0 : decode cX12_table 0 = .ok (.iload_n 1, 1) := by decide +kernel
theorem dX12_table_1 : decode cX12_table 1 = .ok (.invokestatic 253, 3) := by decide +kernel
theorem dX12_table_4 : decode cX12_table 4 = .ok (.ifCond .eq 12, 3) := by decide +kernel
theorem dX12_table_7 : decode cX12_table 7 = .ok (.iload_n 2, 1) := by decide +kernel
theorem dX12_table_8 : decode cX12_table 8 = .ok (.iconst 1, 1) := by decide +kernel
theorem dX12_table_9 : decode cX12_table 9 = .ok (.iconst 5, 1) := by decide +kernel
theorem dX12_table_10 : decode cX12_table 10 = .ok (.invokestatic 134, 3) := by decide +kernel
theorem dX12_table_13 : decode cX12_table 13 = .ok (.ifCond .ne 5, 3) := by decide +kernel
theorem dX12_table_16 : decode cX12_table 16 = .ok (.iconst 0, 1) := by decide +kernel
theorem dX12_table_17 : decode cX12_table 17 = .ok (.ireturn, 1) := by decide +kernel
theorem dX12_table_18 : decode cX12_table 18 = .ok (.aload_n 0, 1) := by decide +kernel
theorem dX12_table_19 : decode cX12_table 19 = .ok (.getfield 48, 3) := by decide +kernel
theorem dX12_table_22 : decode cX12_table 22 = .ok (.iload_n 1, 1) := by decide +kernel
theorem dX12_table_23 : decode cX12_table 23 = .ok (.iload_n 2, 1) := by decide +kernel
theorem dX12_table_24 : decode cX12_table 24 = .ok (.iastore, 1) := by decide +kernel
theorem dX12_table_25 : decode cX12_table 25 = .ok (.iconst 0, 1) := by decide +kernel
theorem dX12_table_26 : decode cX12_table 26 = .ok (.istore_n 3, 1) := by decide +kernel
theorem dX12_table_27 : decode cX12_table 27 = .ok (.iload_n 3, 1) := by decide +kernel
theorem dX12_table_28 : decode cX12_table 28 = .ok (.iconst 5, 1) := by decide +kernel
theorem dX12_table_29 : decode cX12_table 29 = .ok (.if_icmp .ge 31, 3) := by decide +kernel
theorem dX12_table_32 : decode cX12_table 32 = .ok (.aload_n 0, 1) := by decide +kernel
theorem dX12_table_33 : decode cX12_table 33 = .ok (.getfield 51, 3) := by decide +kernel
theorem dX12_table_36 : decode cX12_table 36 = .ok (.iconst 5, 1) := by decide +kernel
theorem dX12_table_37 : decode cX12_table 37 = .ok (.iload_n 1, 1) := by decide +kernel
theorem dX12_table_38 : decode cX12_table 38 = .ok (.imul, 1) := by decide +kernel
theorem dX12_table_39 : decode cX12_table 39 = .ok (.iload_n 3, 1) := by decide +kernel
theorem dX12_table_40 : decode cX12_table 40 = .ok (.iadd, 1) := by decide +kernel
theorem dX12_table_41 : decode cX12_table 41 = .ok (.iconst 0, 1) := by decide +kernel
theorem dX12_table_42 : decode cX12_table 42 = .ok (.iastore, 1) := by decide +kernel
theorem dX12_table_43 : decode cX12_table 43 = .ok (.aload_n 0, 1) := by decide +kernel
theorem dX12_table_44 : decode cX12_table 44 = .ok (.getfield 54, 3) := by decide +kernel
theorem dX12_table_47 : decode cX12_table 47 = .ok (.iconst 5, 1) := by decide +kernel
theorem dX12_table_48 : decode cX12_table 48 = .ok (.iload_n 1, 1) := by decide +kernel
theorem dX12_table_49 : decode cX12_table 49 = .ok (.imul, 1) := by decide +kernel
theorem dX12_table_50 : decode cX12_table 50 = .ok (.iload_n 3, 1) := by decide +kernel
theorem dX12_table_51 : decode cX12_table 51 = .ok (.iadd, 1) := by decide +kernel
theorem dX12_table_52 : decode cX12_table 52 = .ok (.iconst 1, 1) := by decide +kernel
theorem dX12_table_53 : decode cX12_table 53 = .ok (.iastore, 1) := by decide +kernel
theorem dX12_table_54 : decode cX12_table 54 = .ok (.iinc 3 1, 3) := by decide +kernel
theorem dX12_table_57 : decode cX12_table 57 = .ok (.goto (-30), 3) := by decide +kernel
theorem dX12_table_60 : decode cX12_table 60 = .ok (.iconst 1, 1) := by decide +kernel
theorem dX12_table_61 : decode cX12_table 61 = .ok (.ireturn, 1) := by decide +kernel
theorem dX12_write_0 : decode cX12_write 0 = .ok (.iload_n 1, 1) := by decide +kernel
theorem dX12_write_1 : decode cX12_write 1 = .ok (.invokestatic 253, 3) := by decide +kernel
theorem dX12_write_4 : decode cX12_write 4 = .ok (.ifCond .eq 21, 3) := by decide +kernel
theorem dX12_write_7 : decode cX12_write 7 = .ok (.iload_n 2, 1) := by decide +kernel
theorem dX12_write_8 : decode cX12_write 8 = .ok (.iconst 1, 1) := by decide +kernel
theorem dX12_write_9 : decode cX12_write 9 = .ok (.bipush 60, 2) := by decide +kernel
theorem dX12_write_11 : decode cX12_write 11 = .ok (.invokestatic 134, 3) := by decide +kernel
theorem dX12_write_14 : decode cX12_write 14 = .ok (.ifCond .eq 11, 3) := by decide +kernel
theorem dX12_write_17 : decode cX12_write 17 = .ok (.iload_n 2, 1) := by decide +kernel
theorem dX12_write_18 : decode cX12_write 18 = .ok (.aload_n 0, 1) := by decide +kernel
theorem dX12_write_19 : decode cX12_write 19 = .ok (.getfield 93, 3) := by decide +kernel
theorem dX12_write_22 : decode cX12_write 22 = .ok (.if_icmp .le 5, 3) := by decide +kernel
theorem dX12_write_25 : decode cX12_write 25 = .ok (.iconst (-1), 1) := by decide +kernel
theorem dX12_write_26 : decode cX12_write 26 = .ok (.ireturn, 1) := by decide +kernel
theorem dX12_write_27 : decode cX12_write 27 = .ok (.aload_n 0, 1) := by decide +kernel
theorem dX12_write_28 : decode cX12_write 28 = .ok (.iload_n 2, 1) := by decide +kernel
theorem dX12_write_29 : decode cX12_write 29 = .ok (.invokevirtual 138, 3) := by decide +kernel
theorem dX12_write_32 : decode cX12_write 32 = .ok (.pop, 1) := by decide +kernel
theorem dX12_write_33 : decode cX12_write 33 = .ok (.aload_n 0, 1) := by decide +kernel
theorem dX12_write_34 : decode cX12_write 34 = .ok (.iconst 0, 1) := by decide +kernel
theorem dX12_write_35 : decode cX12_write 35 = .ok (.invokevirtual 141, 3) := by decide +kernel
theorem dX12_write_38 : decode cX12_write 38 = .ok (.istore_n 3, 1) := by decide +kernel
theorem dX12_write_39 : decode cX12_write 39 = .ok (.iload_n 3, 1) := by decide +kernel
theorem dX12_write_40 : decode cX12_write 40 = .ok (.ifCond .ge 5, 3) := by decide +kernel
theorem dX12_write_43 : decode cX12_write 43 = .ok (.iload_n 3, 1) := by decide +kernel
theorem dX12_write_44 : decode cX12_write 44 = .ok (.ireturn, 1) := by decide +kernel
theorem dX12_write_45 : decode cX12_write 45 = .ok (.aload_n 0, 1) := by decide +kernel
theorem dX12_write_46 : decode cX12_write 46 = .ok (.getfield 48, 3) := by decide +kernel
theorem dX12_write_49 : decode cX12_write 49 = .ok (.iload_n 1, 1) := by decide +kernel
theorem dX12_write_50 : decode cX12_write 50 = .ok (.aload_n 0, 1) := by decide +kernel
theorem dX12_write_51 : decode cX12_write 51 = .ok (.getfield 121, 3) := by decide +kernel
theorem dX12_write_54 : decode cX12_write 54 = .ok (.iastore, 1) := by decide +kernel
theorem dX12_write_55 : decode cX12_write 55 = .ok (.iconst 0, 1) := by decide +kernel
theorem dX12_write_56 : decode cX12_write 56 = .ok (.istore 4, 2) := by decide +kernel
theorem dX12_write_58 : decode cX12_write 58 = .ok (.iload 4, 2) := by decide +kernel
theorem dX12_write_60 : decode cX12_write 60 = .ok (.aload_n 0, 1) := by decide +kernel
theorem dX12_write_61 : decode cX12_write 61 = .ok (.getfield 121, 3) := by decide +kernel
theorem dX12_write_64 : decode cX12_write 64 = .ok (.if_icmp .ge 27, 3) := by decide +kernel
theorem dX12_write_67 : decode cX12_write 67 = .ok (.aload_n 0, 1) := by decide +kernel
theorem dX12_write_68 : decode cX12_write 68 = .ok (.getfield 51, 3) := by decide +kernel
theorem dX12_write_71 : decode cX12_write 71 = .ok (.iconst 5, 1) := by decide +kernel
theorem dX12_write_72 : decode cX12_write 72 = .ok (.iload_n 1, 1) := by decide +kernel
theorem dX12_write_73 : decode cX12_write 73 = .ok (.imul, 1) := by decide +kernel
theorem dX12_write_74 : decode cX12_write 74 = .ok (.iload 4, 2) := by decide +kernel
theorem dX12_write_76 : decode cX12_write 76 = .ok (.iadd, 1) := by decide +kernel
theorem dX12_write_77 : decode cX12_write 77 = .ok (.aload_n 0, 1) := by decide +kernel
theorem dX12_write_78 : decode cX12_write 78 = .ok (.getfield 13, 3) := by decide +kernel
theorem dX12_write_81 : decode cX12_write 81 = .ok (.iload 4, 2) := by decide +kernel
theorem dX12_write_83 : decode cX12_write 83 = .ok (.iaload, 1) := by decide +kernel
theorem dX12_write_84 : decode cX12_write 84 = .ok (.iastore, 1) := by decide +kernel
theorem dX12_write_85 : decode cX12_write 85 = .ok (.iinc 4 1, 3) := by decide +kernel
theorem dX12_write_88 : decode cX12_write 88 = .ok (.goto (-30), 3) := by decide +kernel
theorem dX12_write_91 : decode cX12_write 91 = .ok (.iconst 0, 1) := by decide +kernel
theorem dX12_write_92 : decode cX12_write 92 = .ok (.istore 4, 2) := by decide +kernel
theorem dX12_write_94 : decode cX12_write 94 = .ok (.iload 4, 2) := by decide +kernel
theorem dX12_write_96 : decode cX12_write 96 = .ok (.aload_n 0, 1) := by decide +kernel
theorem dX12_write_97 : decode cX12_write 97 = .ok (.getfield 121, 3) := by decide +kernel
theorem dX12_write_100 : decode cX12_write 100 = .ok (.iconst 1, 1) := by decide +kernel
theorem dX12_write_101 : decode cX12_write 101 = .ok (.isub, 1) := by decide +kernel
theorem dX12_write_102 : decode cX12_write 102 = .ok (.if_icmp .ge 27, 3) := by decide +kernel
theorem dX12_write_105 : decode cX12_write 105 = .ok (.aload_n 0, 1) := by decide +kernel
theorem dX12_write_106 : decode cX12_write 106 = .ok (.getfield 54, 3) := by decide +kernel
theorem dX12_write_109 : decode cX12_write 109 = .ok (.iconst 5, 1) := by decide +kernel
theorem dX12_write_110 : decode cX12_write 110 = .ok (.iload_n 1, 1) := by decide +kernel
theorem dX12_write_111 : decode cX12_write 111 = .ok (.imul, 1) := by decide +kernel
theorem dX12_write_112 : decode cX12_write 112 = .ok (.iload 4, 2) := by decide +kernel
theorem dX12_write_114 : decode cX12_write 114 = .ok (.iadd, 1) := by decide +kernel
theorem dX12_write_115 : decode cX12_write 115 = .ok (.aload_n 0, 1) := by decide +kernel
theorem dX12_write_116 : decode cX12_write 116 = .ok (.getfield 17, 3) := by decide +kernel
theorem dX12_write_119 : decode cX12_write 119 = .ok (.iload 4, 2) := by decide +kernel
theorem dX12_write_121 : decode cX12_write 121 = .ok (.iaload, 1) := by decide +kernel
theorem dX12_write_122 : decode cX12_write 122 = .ok (.iastore, 1) := by decide +kernel
theorem dX12_write_123 : decode cX12_write 123 = .ok (.iinc 4 1, 3) := by decide +kernel
theorem dX12_write_126 : decode cX12_write 126 = .ok (.goto (-32), 3) := by decide +kernel
theorem dX12_write_129 : decode cX12_write 129 = .ok (.aload_n 0, 1) := by decide +kernel
theorem dX12_write_130 : decode cX12_write 130 = .ok (.getfield 121, 3) := by decide +kernel
theorem dX12_write_133 : decode cX12_write 133 = .ok (.ireturn, 1) := by decide +kernel
theorem dX12_read_0 : decode cX12_read 0 = .ok (.iload_n 1, 1) := by decide +kernel
theorem dX12_read_1 : decode cX12_read 1 = .ok (.invokestatic 253, 3) := by decide +kernel
theorem dX12_read_4 : decode cX12_read 4 = .ok (.ifCond .eq 8, 3) := by decide +kernel
theorem dX12_read_7 : decode cX12_read 7 = .ok (.iload_n 2, 1) := by decide +kernel
theorem dX12_read_8 : decode cX12_read 8 = .ok (.iconst (-1), 1) := by decide +kernel
theorem dX12_read_9 : decode cX12_read 9 = .ok (.if_icmp .ge 5, 3) := by decide +kernel
theorem dX12_read_12 : decode cX12_read 12 = .ok (.iconst (-1), 1) := by decide +kernel
theorem dX12_read_13 : decode cX12_read 13 = .ok (.ireturn, 1) := by decide +kernel
theorem dX12_read_14 : decode cX12_read 14 = .ok (.aload_n 0, 1) := by decide +kernel
theorem dX12_read_15 : decode cX12_read 15 = .ok (.getfield 48, 3) := by decide +kernel
theorem dX12_read_18 : decode cX12_read 18 = .ok (.iload_n 1, 1) := by decide +kernel
theorem dX12_read_19 : decode cX12_read 19 = .ok (.iaload, 1) := by decide +kernel
theorem dX12_read_20 : decode cX12_read 20 = .ok (.ifCond .ne 6, 3) := by decide +kernel
theorem dX12_read_23 : decode cX12_read 23 = .ok (.bipush (-2), 2) := by decide +kernel
theorem dX12_read_25 : decode cX12_read 25 = .ok (.ireturn, 1) := by decide +kernel
theorem dX12_read_26 : decode cX12_read 26 = .ok (.aload_n 0, 1) := by decide +kernel
theorem dX12_read_27 : decode cX12_read 27 = .ok (.iconst 0, 1) := by decide +kernel
theorem dX12_read_28 : decode cX12_read 28 = .ok (.putfield 238, 3) := by decide +kernel
theorem dX12_read_31 : decode cX12_read 31 = .ok (.aload_n 0, 1) := by decide +kernel
theorem dX12_read_32 : decode cX12_read 32 = .ok (.iload_n 2, 1) := by decide +kernel
theorem dX12_read_33 : decode cX12_read 33 = .ok (.putfield 241, 3) := by decide +kernel
theorem dX12_read_36 : decode cX12_read 36 = .ok (.iconst 0, 1) := by decide +kernel
theorem dX12_read_37 : decode cX12_read 37 = .ok (.istore_n 3, 1) := by decide +kernel
theorem dX12_read_38 : decode cX12_read 38 = .ok (.iload_n 3, 1) := by decide +kernel
theorem dX12_read_39 : decode cX12_read 39 = .ok (.aload_n 0, 1) := by decide +kernel
theorem dX12_read_40 : decode cX12_read 40 = .ok (.getfield 48, 3) := by decide +kernel
theorem dX12_read_43 : decode cX12_read 43 = .ok (.iload_n 1, 1) := by decide +kernel
theorem dX12_read_44 : decode cX12_read 44 = .ok (.iaload, 1) := by decide +kernel
theorem dX12_read_45 : decode cX12_read 45 = .ok (.if_icmp .ge 29, 3) := by decide +kernel
theorem dX12_read_48 : decode cX12_read 48 = .ok (.iload_n 3, 1) := by decide +kernel
theorem dX12_read_49 : decode cX12_read 49 = .ok (.ifCond .le 9, 3) := by decide +kernel
theorem dX12_read_52 : decode cX12_read 52 = .ok (.aload_n 0, 1) := by decide +kernel
theorem dX12_read_53 : decode cX12_read 53 = .ok (.bipush 32, 2) := by decide +kernel
theorem dX12_read_55 : decode cX12_read 55 = .ok (.invokevirtual 247, 3) := by decide +kernel
theorem dX12_read_58 : decode cX12_read 58 = .ok (.aload_n 0, 1) := by decide +kernel
theorem dX12_read_59 : decode cX12_read 59 = .ok (.aload_n 0, 1) := by decide +kernel
theorem dX12_read_60 : decode cX12_read 60 = .ok (.iload_n 1, 1) := by decide +kernel
theorem dX12_read_61 : decode cX12_read 61 = .ok (.iload_n 3, 1) := by decide +kernel
theorem dX12_read_62 : decode cX12_read 62 = .ok (.invokevirtual 256, 3) := by decide +kernel
theorem dX12_read_65 : decode cX12_read 65 = .ok (.invokevirtual 250, 3) := by decide +kernel
theorem dX12_read_68 : decode cX12_read 68 = .ok (.iinc 3 1, 3) := by decide +kernel
theorem dX12_read_71 : decode cX12_read 71 = .ok (.goto (-33), 3) := by decide +kernel
theorem dX12_read_74 : decode cX12_read 74 = .ok (.aload_n 0, 1) := by decide +kernel
theorem dX12_read_75 : decode cX12_read 75 = .ok (.bipush 47, 2) := by decide +kernel
theorem dX12_read_77 : decode cX12_read 77 = .ok (.invokevirtual 247, 3) := by decide +kernel
theorem dX12_read_80 : decode cX12_read 80 = .ok (.iconst 0, 1) := by decide +kernel
theorem dX12_read_81 : decode cX12_read 81 = .ok (.istore_n 3, 1) := by decide +kernel
theorem dX12_read_82 : decode cX12_read 82 = .ok (.iload_n 3, 1) := by decide +kernel
theorem dX12_read_83 : decode cX12_read 83 = .ok (.aload_n 0, 1) := by decide +kernel
theorem dX12_read_84 : decode cX12_read 84 = .ok (.getfield 48, 3) := by decide +kernel
theorem dX12_read_87 : decode cX12_read 87 = .ok (.iload_n 1, 1) := by decide +kernel
theorem dX12_read_88 : decode cX12_read 88 = .ok (.iaload, 1) := by decide +kernel
theorem dX12_read_89 : decode cX12_read 89 = .ok (.iconst 1, 1) := by decide +kernel
theorem dX12_read_90 : decode cX12_read 90 = .ok (.isub, 1) := by decide +kernel
theorem dX12_read_91 : decode cX12_read 91 = .ok (.if_icmp .ge 29, 3) := by decide +kernel
theorem dX12_read_94 : decode cX12_read 94 = .ok (.iload_n 3, 1) := by decide +kernel
theorem dX12_read_95 : decode cX12_read 95 = .ok (.ifCond .le 9, 3) := by decide +kernel
theorem dX12_read_98 : decode cX12_read 98 = .ok (.aload_n 0, 1) := by decide +kernel
theorem dX12_read_99 : decode cX12_read 99 = .ok (.bipush 32, 2) := by decide +kernel
theorem dX12_read_101 : decode cX12_read 101 = .ok (.invokevirtual 247, 3) := by decide +kernel
theorem dX12_read_104 : decode cX12_read 104 = .ok (.aload_n 0, 1) := by decide +kernel
theorem dX12_read_105 : decode cX12_read 105 = .ok (.aload_n 0, 1) := by decide +kernel
theorem dX12_read_106 : decode cX12_read 106 = .ok (.iload_n 1, 1) := by decide +kernel
theorem dX12_read_107 : decode cX12_read 107 = .ok (.iload_n 3, 1) := by decide +kernel
theorem dX12_read_108 : decode cX12_read 108 = .ok (.invokevirtual 260, 3) := by decide +kernel
theorem dX12_read_111 : decode cX12_read 111 = .ok (.invokevirtual 250, 3) := by decide +kernel
theorem dX12_read_114 : decode cX12_read 114 = .ok (.iinc 3 1, 3) := by decide +kernel
theorem dX12_read_117 : decode cX12_read 117 = .ok (.goto (-35), 3) := by decide +kernel
theorem dX12_read_120 : decode cX12_read 120 = .ok (.iload_n 2, 1) := by decide +kernel
theorem dX12_read_121 : decode cX12_read 121 = .ok (.iconst (-1), 1) := by decide +kernel
theorem dX12_read_122 : decode cX12_read 122 = .ok (.if_icmp .ne 10, 3) := by decide +kernel
theorem dX12_read_125 : decode cX12_read 125 = .ok (.aload_n 0, 1) := by decide +kernel
theorem dX12_read_126 : decode cX12_read 126 = .ok (.getfield 238, 3) := by decide +kernel
theorem dX12_read_129 : decode cX12_read 129 = .ok (.goto 20, 3) := by decide +kernel
theorem dX12_read_132 : decode cX12_read 132 = .ok (.iload_n 2, 1) := by decide +kernel
theorem dX12_read_133 : decode cX12_read 133 = .ok (.aload_n 0, 1) := by decide +kernel
theorem dX12_read_134 : decode cX12_read 134 = .ok (.getfield 238, 3) := by decide +kernel
theorem dX12_read_137 : decode cX12_read 137 = .ok (.if_icmp .ge 10, 3) := by decide +kernel
theorem dX12_read_140 : decode cX12_read 140 = .ok (.aload_n 0, 1) := by decide +kernel
theorem dX12_read_141 : decode cX12_read 141 = .ok (.getfield 244, 3) := by decide +kernel
theorem dX12_read_144 : decode cX12_read 144 = .ok (.goto 5, 3) := by decide +kernel
theorem dX12_read_147 : decode cX12_read 147 = .ok (.bipush (-3), 2) := by decide +kernel
theorem dX12_read_149 : decode cX12_read 149 = .ok (.ireturn, 1) := by decide +kernel
theorem dX12_isEntry_0 : decode cX12_isEntry 0 = .ok (.iload_n 3, 1) := by decide +kernel
theorem dX12_isEntry_1 : decode cX12_isEntry 1 = .ok (.iconst 0, 1) := by decide +kernel
theorem dX12_isEntry_2 : decode cX12_isEntry 2 = .ok (.iload_n 2, 1) := by decide +kernel
theorem dX12_isEntry_3 : decode cX12_isEntry 3 = .ok (.ifCond .eq 14, 3) := by decide +kernel
theorem dX12_isEntry_6 : decode cX12_isEntry 6 = .ok (.aload_n 0, 1) := by decide +kernel
theorem dX12_isEntry_7 : decode cX12_isEntry 7 = .ok (.getfield 48, 3) := by decide +kernel
theorem dX12_isEntry_10 : decode cX12_isEntry 10 = .ok (.iload_n 1, 1) := by decide +kernel
theorem dX12_isEntry_11 : decode cX12_isEntry 11 = .ok (.iaload, 1) := by decide +kernel
theorem dX12_isEntry_12 : decode cX12_isEntry 12 = .ok (.iconst 1, 1) := by decide +kernel
theorem dX12_isEntry_13 : decode cX12_isEntry 13 = .ok (.isub, 1) := by decide +kernel
theorem dX12_isEntry_14 : decode cX12_isEntry 14 = .ok (.goto 11, 3) := by decide +kernel
theorem dX12_isEntry_17 : decode cX12_isEntry 17 = .ok (.aload_n 0, 1) := by decide +kernel
theorem dX12_isEntry_18 : decode cX12_isEntry 18 = .ok (.getfield 48, 3) := by decide +kernel
theorem dX12_isEntry_21 : decode cX12_isEntry 21 = .ok (.iload_n 1, 1) := by decide +kernel
theorem dX12_isEntry_22 : decode cX12_isEntry 22 = .ok (.iaload, 1) := by decide +kernel
theorem dX12_isEntry_23 : decode cX12_isEntry 23 = .ok (.iconst 2, 1) := by decide +kernel
theorem dX12_isEntry_24 : decode cX12_isEntry 24 = .ok (.isub, 1) := by decide +kernel
theorem dX12_isEntry_25 : decode cX12_isEntry 25 = .ok (.invokestatic 134, 3) := by decide +kernel
theorem dX12_isEntry_28 : decode cX12_isEntry 28 = .ok (.ireturn, 1) := by decide +kernel
theorem dX12_canBe_0 : decode cX12_canBe 0 = .ok (.iload_n 0, 1) := by decide +kernel
theorem dX12_canBe_1 : decode cX12_canBe 1 = .ok (.ifCond .eq 14, 3) := by decide +kernel
theorem dX12_canBe_4 : decode cX12_canBe 4 = .ok (.iload_n 1, 1) := by decide +kernel
theorem dX12_canBe_5 : decode cX12_canBe 5 = .ok (.bipush (-6), 2) := by decide +kernel
theorem dX12_canBe_7 : decode cX12_canBe 7 = .ok (.bipush 6, 2) := by decide +kernel
theorem dX12_canBe_9 : decode cX12_canBe 9 = .ok (.invokestatic 134, 3) := by decide +kernel
theorem dX12_canBe_12 : decode cX12_canBe 12 = .ok (.goto 10, 3) := by decide +kernel
theorem dX12_canBe_15 : decode cX12_canBe 15 = .ok (.iload_n 1, 1) := by decide +kernel
theorem dX12_canBe_16 : decode cX12_canBe 16 = .ok (.iconst 1, 1) := by decide +kernel
theorem dX12_canBe_17 : decode cX12_canBe 17 = .ok (.bipush 36, 2) := by decide +kernel
theorem dX12_canBe_19 : decode cX12_canBe 19 = .ok (.invokestatic 134, 3) := by decide +kernel
theorem dX12_canBe_22 : decode cX12_canBe 22 = .ok (.ireturn, 1) := by decide +kernel
theorem dX12_puts_0 : decode cX12_puts 0 = .ok (.iload_n 2, 1) := by decide +kernel
theorem dX12_puts_1 : decode cX12_puts 1 = .ok (.ifCond .eq 18, 3) := by decide +kernel
theorem dX12_puts_4 : decode cX12_puts 4 = .ok (.aload_n 0, 1) := by decide +kernel
theorem dX12_puts_5 : decode cX12_puts 5 = .ok (.getfield 51, 3) := by decide +kernel
theorem dX12_puts_8 : decode cX12_puts 8 = .ok (.iconst 5, 1) := by decide +kernel
theorem dX12_puts_9 : decode cX12_puts 9 = .ok (.iload_n 1, 1) := by decide +kernel
theorem dX12_puts_10 : decode cX12_puts 10 = .ok (.imul, 1) := by decide +kernel
theorem dX12_puts_11 : decode cX12_puts 11 = .ok (.iload_n 3, 1) := by decide +kernel
theorem dX12_puts_12 : decode cX12_puts 12 = .ok (.iadd, 1) := by decide +kernel
theorem dX12_puts_13 : decode cX12_puts 13 = .ok (.iload 4, 2) := by decide +kernel
theorem dX12_puts_15 : decode cX12_puts 15 = .ok (.iastore, 1) := by decide +kernel
theorem dX12_puts_16 : decode cX12_puts 16 = .ok (.goto 15, 3) := by decide +kernel
theorem dX12_puts_19 : decode cX12_puts 19 = .ok (.aload_n 0, 1) := by decide +kernel
theorem dX12_puts_20 : decode cX12_puts 20 = .ok (.getfield 54, 3) := by decide +kernel
theorem dX12_puts_23 : decode cX12_puts 23 = .ok (.iconst 5, 1) := by decide +kernel
theorem dX12_puts_24 : decode cX12_puts 24 = .ok (.iload_n 1, 1) := by decide +kernel
theorem dX12_puts_25 : decode cX12_puts 25 = .ok (.imul, 1) := by decide +kernel
theorem dX12_puts_26 : decode cX12_puts 26 = .ok (.iload_n 3, 1) := by decide +kernel
theorem dX12_puts_27 : decode cX12_puts 27 = .ok (.iadd, 1) := by decide +kernel
theorem dX12_puts_28 : decode cX12_puts 28 = .ok (.iload 4, 2) := by decide +kernel
theorem dX12_puts_30 : decode cX12_puts 30 = .ok (.iastore, 1) := by decide +kernel
theorem dX12_puts_31 : decode cX12_puts 31 = .ok (.return_, 1) := by decide +kernel
theorem dX12_put_0 : decode cX12_put 0 = .ok (.iload_n 1, 1) := by decide +kernel
theorem dX12_put_1 : decode cX12_put 1 = .ok (.invokestatic 253, 3) := by decide +kernel
theorem dX12_put_4 : decode cX12_put 4 = .ok (.ifCond .ne 6, 3) := by decide +kernel
theorem dX12_put_7 : decode cX12_put 7 = .ok (.bipush (-99), 2) := by decide +kernel
theorem dX12_put_9 : decode cX12_put 9 = .ok (.ireturn, 1) := by decide +kernel
theorem dX12_put_10 : decode cX12_put 10 = .ok (.aload_n 0, 1) := by decide +kernel
theorem dX12_put_11 : decode cX12_put 11 = .ok (.getfield 48, 3) := by decide +kernel
theorem dX12_put_14 : decode cX12_put 14 = .ok (.iload_n 1, 1) := by decide +kernel
theorem dX12_put_15 : decode cX12_put 15 = .ok (.iaload, 1) := by decide +kernel
theorem dX12_put_16 : decode cX12_put 16 = .ok (.ifCond .ne 6, 3) := by decide +kernel
theorem dX12_put_19 : decode cX12_put 19 = .ok (.bipush (-100), 2) := by decide +kernel
theorem dX12_put_21 : decode cX12_put 21 = .ok (.ireturn, 1) := by decide +kernel
theorem dX12_put_22 : decode cX12_put 22 = .ok (.aload_n 0, 1) := by decide +kernel
theorem dX12_put_23 : decode cX12_put 23 = .ok (.iload_n 1, 1) := by decide +kernel
theorem dX12_put_24 : decode cX12_put 24 = .ok (.iload_n 2, 1) := by decide +kernel
theorem dX12_put_25 : decode cX12_put 25 = .ok (.iload_n 3, 1) := by decide +kernel
theorem dX12_put_26 : decode cX12_put 26 = .ok (.invokevirtual 263, 3) := by decide +kernel
theorem dX12_put_29 : decode cX12_put 29 = .ok (.ifCond .ne 6, 3) := by decide +kernel
theorem dX12_put_32 : decode cX12_put 32 = .ok (.bipush (-99), 2) := by decide +kernel
theorem dX12_put_34 : decode cX12_put 34 = .ok (.ireturn, 1) := by decide +kernel
theorem dX12_put_35 : decode cX12_put 35 = .ok (.iload_n 2, 1) := by decide +kernel
theorem dX12_put_36 : decode cX12_put 36 = .ok (.iload 4, 2) := by decide +kernel
theorem dX12_put_38 : decode cX12_put 38 = .ok (.invokestatic 267, 3) := by decide +kernel
theorem dX12_put_41 : decode cX12_put 41 = .ok (.ifCond .ne 6, 3) := by decide +kernel
theorem dX12_put_44 : decode cX12_put 44 = .ok (.bipush (-101), 2) := by decide +kernel
theorem dX12_put_46 : decode cX12_put 46 = .ok (.ireturn, 1) := by decide +kernel
theorem dX12_put_47 : decode cX12_put 47 = .ok (.iload_n 2, 1) := by decide +kernel
theorem dX12_put_48 : decode cX12_put 48 = .ok (.ifCond .eq 12, 3) := by decide +kernel
theorem dX12_put_51 : decode cX12_put 51 = .ok (.aload_n 0, 1) := by decide +kernel
theorem dX12_put_52 : decode cX12_put 52 = .ok (.iload_n 1, 1) := by decide +kernel
theorem dX12_put_53 : decode cX12_put 53 = .ok (.iload_n 3, 1) := by decide +kernel
theorem dX12_put_54 : decode cX12_put 54 = .ok (.invokevirtual 256, 3) := by decide +kernel
theorem dX12_put_57 : decode cX12_put 57 = .ok (.goto 9, 3) := by decide +kernel
theorem dX12_put_60 : decode cX12_put 60 = .ok (.aload_n 0, 1) := by decide +kernel
theorem dX12_put_61 : decode cX12_put 61 = .ok (.iload_n 1, 1) := by decide +kernel
theorem dX12_put_62 : decode cX12_put 62 = .ok (.iload_n 3, 1) := by decide +kernel
theorem dX12_put_63 : decode cX12_put 63 = .ok (.invokevirtual 260, 3) := by decide +kernel
theorem dX12_put_66 : decode cX12_put 66 = .ok (.istore 5, 2) := by decide +kernel
theorem dX12_put_68 : decode cX12_put 68 = .ok (.aload_n 0, 1) := by decide +kernel
theorem dX12_put_69 : decode cX12_put 69 = .ok (.iload_n 1, 1) := by decide +kernel
theorem dX12_put_70 : decode cX12_put 70 = .ok (.iload_n 2, 1) := by decide +kernel
theorem dX12_put_71 : decode cX12_put 71 = .ok (.iload_n 3, 1) := by decide +kernel
theorem dX12_put_72 : decode cX12_put 72 = .ok (.iload 4, 2) := by decide +kernel
theorem dX12_put_74 : decode cX12_put 74 = .ok (.invokevirtual 271, 3) := by decide +kernel
theorem dX12_put_77 : decode cX12_put 77 = .ok (.iload 5, 2) := by decide +kernel
theorem dX12_put_79 : decode cX12_put 79 = .ok (.ireturn, 1) := by decide +kernel
theorem dX12_told__0 : decode cX12_told_ 0 = .ok (.iload_n 1, 1) := by decide +kernel
theorem dX12_told__1 : decode cX12_told_ 1 = .ok (.invokestatic 253, 3) := by decide +kernel
theorem dX12_told__4 : decode cX12_told_ 4 = .ok (.ifCond .ne 6, 3) := by decide +kernel
theorem dX12_told__7 : decode cX12_told_ 7 = .ok (.bipush (-99), 2) := by decide +kernel
theorem dX12_told__9 : decode cX12_told_ 9 = .ok (.ireturn, 1) := by decide +kernel
theorem dX12_told__10 : decode cX12_told_ 10 = .ok (.aload_n 0, 1) := by decide +kernel
theorem dX12_told__11 : decode cX12_told_ 11 = .ok (.getfield 48, 3) := by decide +kernel
theorem dX12_told__14 : decode cX12_told_ 14 = .ok (.iload_n 1, 1) := by decide +kernel
theorem dX12_told__15 : decode cX12_told_ 15 = .ok (.iaload, 1) := by decide +kernel
theorem dX12_told__16 : decode cX12_told_ 16 = .ok (.ifCond .ne 6, 3) := by decide +kernel
theorem dX12_told__19 : decode cX12_told_ 19 = .ok (.bipush (-100), 2) := by decide +kernel
theorem dX12_told__21 : decode cX12_told_ 21 = .ok (.ireturn, 1) := by decide +kernel
theorem dX12_told__22 : decode cX12_told_ 22 = .ok (.iload_n 3, 1) := by decide +kernel
theorem dX12_told__23 : decode cX12_told_ 23 = .ok (.iconst (-1), 1) := by decide +kernel
theorem dX12_told__24 : decode cX12_told_ 24 = .ok (.if_icmp .ne 10, 3) := by decide +kernel
theorem dX12_told__27 : decode cX12_told_ 27 = .ok (.aload_n 0, 1) := by decide +kernel
theorem dX12_told__28 : decode cX12_told_ 28 = .ok (.getfield 48, 3) := by decide +kernel
theorem dX12_told__31 : decode cX12_told_ 31 = .ok (.iload_n 1, 1) := by decide +kernel
theorem dX12_told__32 : decode cX12_told_ 32 = .ok (.iaload, 1) := by decide +kernel
theorem dX12_told__33 : decode cX12_told_ 33 = .ok (.ireturn, 1) := by decide +kernel
theorem dX12_told__34 : decode cX12_told_ 34 = .ok (.aload_n 0, 1) := by decide +kernel
theorem dX12_told__35 : decode cX12_told_ 35 = .ok (.iload_n 1, 1) := by decide +kernel
theorem dX12_told__36 : decode cX12_told_ 36 = .ok (.iload_n 2, 1) := by decide +kernel
theorem dX12_told__37 : decode cX12_told_ 37 = .ok (.iload_n 3, 1) := by decide +kernel
theorem dX12_told__38 : decode cX12_told_ 38 = .ok (.invokevirtual 263, 3) := by decide +kernel
theorem dX12_told__41 : decode cX12_told_ 41 = .ok (.ifCond .ne 8, 3) := by decide +kernel
theorem dX12_told__44 : decode cX12_told_ 44 = .ok (.bipush (-99), 2) := by decide +kernel
theorem dX12_told__46 : decode cX12_told_ 46 = .ok (.goto 22, 3) := by decide +kernel
theorem dX12_told__49 : decode cX12_told_ 49 = .ok (.iload_n 2, 1) := by decide +kernel
theorem dX12_told__50 : decode cX12_told_ 50 = .ok (.ifCond .eq 12, 3) := by decide +kernel
theorem dX12_told__53 : decode cX12_told_ 53 = .ok (.aload_n 0, 1) := by decide +kernel
theorem dX12_told__54 : decode cX12_told_ 54 = .ok (.iload_n 1, 1) := by decide +kernel
theorem dX12_told__55 : decode cX12_told_ 55 = .ok (.iload_n 3, 1) := by decide +kernel
theorem dX12_told__56 : decode cX12_told_ 56 = .ok (.invokevirtual 256, 3) := by decide +kernel
theorem dX12_told__59 : decode cX12_told_ 59 = .ok (.goto 9, 3) := by decide +kernel
theorem dX12_told__62 : decode cX12_told_ 62 = .ok (.aload_n 0, 1) := by decide +kernel
theorem dX12_told__63 : decode cX12_told_ 63 = .ok (.iload_n 1, 1) := by decide +kernel
theorem dX12_told__64 : decode cX12_told_ 64 = .ok (.iload_n 3, 1) := by decide +kernel
theorem dX12_told__65 : decode cX12_told_ 65 = .ok (.invokevirtual 260, 3) := by decide +kernel
theorem dX12_told__68 : decode cX12_told_ 68 = .ok (.ireturn, 1) := by decide +kernel
theorem dX12_laysPoly_0 : decode cX12_laysPoly 0 = .ok (.iconst 0, 1) := by decide +kernel
theorem dX12_laysPoly_1 : decode cX12_laysPoly 1 = .ok (.istore_n 3, 1) := by decide +kernel
theorem dX12_laysPoly_2 : decode cX12_laysPoly 2 = .ok (.iload_n 3, 1) := by decide +kernel
theorem dX12_laysPoly_3 : decode cX12_laysPoly 3 = .ok (.bipush 36, 2) := by decide +kernel
theorem dX12_laysPoly_5 : decode cX12_laysPoly 5 = .ok (.if_icmp .ge 16, 3) := by decide +kernel
theorem dX12_laysPoly_8 : decode cX12_laysPoly 8 = .ok (.aload_n 0, 1) := by decide +kernel
theorem dX12_laysPoly_9 : decode cX12_laysPoly 9 = .ok (.getfield 75, 3) := by decide +kernel
theorem dX12_laysPoly_12 : decode cX12_laysPoly 12 = .ok (.iload_n 3, 1) := by decide +kernel
theorem dX12_laysPoly_13 : decode cX12_laysPoly 13 = .ok (.lconst 0, 1) := by decide +kernel
theorem dX12_laysPoly_14 : decode cX12_laysPoly 14 = .ok (.lastore, 1) := by decide +kernel
theorem dX12_laysPoly_15 : decode cX12_laysPoly 15 = .ok (.iinc 3 1, 3) := by decide +kernel
theorem dX12_laysPoly_18 : decode cX12_laysPoly 18 = .ok (.goto (-16), 3) := by decide +kernel
theorem dX12_laysPoly_21 : decode cX12_laysPoly 21 = .ok (.aload_n 0, 1) := by decide +kernel
theorem dX12_laysPoly_22 : decode cX12_laysPoly 22 = .ok (.getfield 75, 3) := by decide +kernel
theorem dX12_laysPoly_25 : decode cX12_laysPoly 25 = .ok (.iconst 0, 1) := by decide +kernel
theorem dX12_laysPoly_26 : decode cX12_laysPoly 26 = .ok (.lconst 1, 1) := by decide +kernel
theorem dX12_laysPoly_27 : decode cX12_laysPoly 27 = .ok (.lastore, 1) := by decide +kernel
theorem dX12_laysPoly_28 : decode cX12_laysPoly 28 = .ok (.iconst 1, 1) := by decide +kernel
theorem dX12_laysPoly_29 : decode cX12_laysPoly 29 = .ok (.istore_n 3, 1) := by decide +kernel
theorem dX12_laysPoly_30 : decode cX12_laysPoly 30 = .ok (.iload_n 3, 1) := by decide +kernel
theorem dX12_laysPoly_31 : decode cX12_laysPoly 31 = .ok (.aload_n 0, 1) := by decide +kernel
theorem dX12_laysPoly_32 : decode cX12_laysPoly 32 = .ok (.getfield 48, 3) := by decide +kernel
theorem dX12_laysPoly_35 : decode cX12_laysPoly 35 = .ok (.iload_n 1, 1) := by decide +kernel
theorem dX12_laysPoly_36 : decode cX12_laysPoly 36 = .ok (.iaload, 1) := by decide +kernel
theorem dX12_laysPoly_37 : decode cX12_laysPoly 37 = .ok (.iload_n 2, 1) := by decide +kernel
theorem dX12_laysPoly_38 : decode cX12_laysPoly 38 = .ok (.isub, 1) := by decide +kernel
theorem dX12_laysPoly_39 : decode cX12_laysPoly 39 = .ok (.if_icmp .gt 133, 3) := by decide +kernel
theorem dX12_laysPoly_42 : decode cX12_laysPoly 42 = .ok (.iconst 0, 1) := by decide +kernel
theorem dX12_laysPoly_43 : decode cX12_laysPoly 43 = .ok (.istore 4, 2) := by decide +kernel
theorem dX12_laysPoly_45 : decode cX12_laysPoly 45 = .ok (.iload 4, 2) := by decide +kernel
theorem dX12_laysPoly_47 : decode cX12_laysPoly 47 = .ok (.iload_n 3, 1) := by decide +kernel
theorem dX12_laysPoly_48 : decode cX12_laysPoly 48 = .ok (.if_icmp .gt 118, 3) := by decide +kernel
theorem dX12_laysPoly_51 : decode cX12_laysPoly 51 = .ok (.iload 4, 2) := by decide +kernel
theorem dX12_laysPoly_53 : decode cX12_laysPoly 53 = .ok (.ifCond .le 22, 3) := by decide +kernel
theorem dX12_laysPoly_56 : decode cX12_laysPoly 56 = .ok (.aload_n 0, 1) := by decide +kernel
theorem dX12_laysPoly_57 : decode cX12_laysPoly 57 = .ok (.getfield 75, 3) := by decide +kernel
theorem dX12_laysPoly_60 : decode cX12_laysPoly 60 = .ok (.bipush 6, 2) := by decide +kernel
theorem dX12_laysPoly_62 : decode cX12_laysPoly 62 = .ok (.iload_n 3, 1) := by decide +kernel
theorem dX12_laysPoly_63 : decode cX12_laysPoly 63 = .ok (.iconst 1, 1) := by decide +kernel
theorem dX12_laysPoly_64 : decode cX12_laysPoly 64 = .ok (.isub, 1) := by decide +kernel
theorem dX12_laysPoly_65 : decode cX12_laysPoly 65 = .ok (.imul, 1) := by decide +kernel
theorem dX12_laysPoly_66 : decode cX12_laysPoly 66 = .ok (.iload 4, 2) := by decide +kernel
theorem dX12_laysPoly_68 : decode cX12_laysPoly 68 = .ok (.iadd, 1) := by decide +kernel
theorem dX12_laysPoly_69 : decode cX12_laysPoly 69 = .ok (.iconst 1, 1) := by decide +kernel
theorem dX12_laysPoly_70 : decode cX12_laysPoly 70 = .ok (.isub, 1) := by decide +kernel
theorem dX12_laysPoly_71 : decode cX12_laysPoly 71 = .ok (.laload, 1) := by decide +kernel
theorem dX12_laysPoly_72 : decode cX12_laysPoly 72 = .ok (.goto 4, 3) := by decide +kernel
theorem dX12_laysPoly_75 : decode cX12_laysPoly 75 = .ok (.lconst 0, 1) := by decide +kernel
theorem dX12_laysPoly_76 : decode cX12_laysPoly 76 = .ok (.lstore 5, 2) := by decide +kernel
theorem dX12_laysPoly_78 : decode cX12_laysPoly 78 = .ok (.lload 5, 2) := by decide +kernel
theorem dX12_laysPoly_80 : decode cX12_laysPoly 80 = .ok (.aload_n 0, 1) := by decide +kernel
theorem dX12_laysPoly_81 : decode cX12_laysPoly 81 = .ok (.iload_n 1, 1) := by decide +kernel
theorem dX12_laysPoly_82 : decode cX12_laysPoly 82 = .ok (.iload_n 2, 1) := by decide +kernel
theorem dX12_laysPoly_83 : decode cX12_laysPoly 83 = .ok (.iload_n 3, 1) := by decide +kernel
theorem dX12_laysPoly_84 : decode cX12_laysPoly 84 = .ok (.iadd, 1) := by decide +kernel
theorem dX12_laysPoly_85 : decode cX12_laysPoly 85 = .ok (.iconst 1, 1) := by decide +kernel
theorem dX12_laysPoly_86 : decode cX12_laysPoly 86 = .ok (.isub, 1) := by decide +kernel
theorem dX12_laysPoly_87 : decode cX12_laysPoly 87 = .ok (.invokevirtual 256, 3) := by decide +kernel
theorem dX12_laysPoly_90 : decode cX12_laysPoly 90 = .ok (.i2l, 1) := by decide +kernel
theorem dX12_laysPoly_91 : decode cX12_laysPoly 91 = .ok (.aload_n 0, 1) := by decide +kernel
theorem dX12_laysPoly_92 : decode cX12_laysPoly 92 = .ok (.getfield 75, 3) := by decide +kernel
theorem dX12_laysPoly_95 : decode cX12_laysPoly 95 = .ok (.bipush 6, 2) := by decide +kernel
theorem dX12_laysPoly_97 : decode cX12_laysPoly 97 = .ok (.iload_n 3, 1) := by decide +kernel
theorem dX12_laysPoly_98 : decode cX12_laysPoly 98 = .ok (.iconst 1, 1) := by decide +kernel
theorem dX12_laysPoly_99 : decode cX12_laysPoly 99 = .ok (.isub, 1) := by decide +kernel
theorem dX12_laysPoly_100 : decode cX12_laysPoly 100 = .ok (.imul, 1) := by decide +kernel
theorem dX12_laysPoly_101 : decode cX12_laysPoly 101 = .ok (.iload 4, 2) := by decide +kernel
theorem dX12_laysPoly_103 : decode cX12_laysPoly 103 = .ok (.iadd, 1) := by decide +kernel
theorem dX12_laysPoly_104 : decode cX12_laysPoly 104 = .ok (.laload, 1) := by decide +kernel
theorem dX12_laysPoly_105 : decode cX12_laysPoly 105 = .ok (.lmul, 1) := by decide +kernel
theorem dX12_laysPoly_106 : decode cX12_laysPoly 106 = .ok (.lsub, 1) := by decide +kernel
theorem dX12_laysPoly_107 : decode cX12_laysPoly 107 = .ok (.lstore 5, 2) := by decide +kernel
theorem dX12_laysPoly_109 : decode cX12_laysPoly 109 = .ok (.aload_n 0, 1) := by decide +kernel
theorem dX12_laysPoly_110 : decode cX12_laysPoly 110 = .ok (.getfield 75, 3) := by decide +kernel
theorem dX12_laysPoly_113 : decode cX12_laysPoly 113 = .ok (.bipush 6, 2) := by decide +kernel
theorem dX12_laysPoly_115 : decode cX12_laysPoly 115 = .ok (.iload_n 3, 1) := by decide +kernel
theorem dX12_laysPoly_116 : decode cX12_laysPoly 116 = .ok (.imul, 1) := by decide +kernel
theorem dX12_laysPoly_117 : decode cX12_laysPoly 117 = .ok (.iload 4, 2) := by decide +kernel
theorem dX12_laysPoly_119 : decode cX12_laysPoly 119 = .ok (.iadd, 1) := by decide +kernel
theorem dX12_laysPoly_120 : decode cX12_laysPoly 120 = .ok (.iload_n 3, 1) := by decide +kernel
theorem dX12_laysPoly_121 : decode cX12_laysPoly 121 = .ok (.iconst 1, 1) := by decide +kernel
theorem dX12_laysPoly_122 : decode cX12_laysPoly 122 = .ok (.if_icmp .le 35, 3) := by decide +kernel
theorem dX12_laysPoly_125 : decode cX12_laysPoly 125 = .ok (.lload 5, 2) := by decide +kernel
theorem dX12_laysPoly_127 : decode cX12_laysPoly 127 = .ok (.aload_n 0, 1) := by decide +kernel
theorem dX12_laysPoly_128 : decode cX12_laysPoly 128 = .ok (.iload_n 1, 1) := by decide +kernel
theorem dX12_laysPoly_129 : decode cX12_laysPoly 129 = .ok (.iload_n 2, 1) := by decide +kernel
theorem dX12_laysPoly_130 : decode cX12_laysPoly 130 = .ok (.iload_n 3, 1) := by decide +kernel
theorem dX12_laysPoly_131 : decode cX12_laysPoly 131 = .ok (.iadd, 1) := by decide +kernel
theorem dX12_laysPoly_132 : decode cX12_laysPoly 132 = .ok (.iconst 2, 1) := by decide +kernel
theorem dX12_laysPoly_133 : decode cX12_laysPoly 133 = .ok (.isub, 1) := by decide +kernel
theorem dX12_laysPoly_134 : decode cX12_laysPoly 134 = .ok (.invokevirtual 260, 3) := by decide +kernel
theorem dX12_laysPoly_137 : decode cX12_laysPoly 137 = .ok (.i2l, 1) := by decide +kernel
theorem dX12_laysPoly_138 : decode cX12_laysPoly 138 = .ok (.aload_n 0, 1) := by decide +kernel
theorem dX12_laysPoly_139 : decode cX12_laysPoly 139 = .ok (.getfield 75, 3) := by decide +kernel
theorem dX12_laysPoly_142 : decode cX12_laysPoly 142 = .ok (.bipush 6, 2) := by decide +kernel
theorem dX12_laysPoly_144 : decode cX12_laysPoly 144 = .ok (.iload_n 3, 1) := by decide +kernel
theorem dX12_laysPoly_145 : decode cX12_laysPoly 145 = .ok (.iconst 2, 1) := by decide +kernel
theorem dX12_laysPoly_146 : decode cX12_laysPoly 146 = .ok (.isub, 1) := by decide +kernel
theorem dX12_laysPoly_147 : decode cX12_laysPoly 147 = .ok (.imul, 1) := by decide +kernel
theorem dX12_laysPoly_148 : decode cX12_laysPoly 148 = .ok (.iload 4, 2) := by decide +kernel
theorem dX12_laysPoly_150 : decode cX12_laysPoly 150 = .ok (.iadd, 1) := by decide +kernel
theorem dX12_laysPoly_151 : decode cX12_laysPoly 151 = .ok (.laload, 1) := by decide +kernel
theorem dX12_laysPoly_152 : decode cX12_laysPoly 152 = .ok (.lmul, 1) := by decide +kernel
theorem dX12_laysPoly_153 : decode cX12_laysPoly 153 = .ok (.lsub, 1) := by decide +kernel
theorem dX12_laysPoly_154 : decode cX12_laysPoly 154 = .ok (.goto 5, 3) := by decide +kernel
theorem dX12_laysPoly_157 : decode cX12_laysPoly 157 = .ok (.lload 5, 2) := by decide +kernel
theorem dX12_laysPoly_159 : decode cX12_laysPoly 159 = .ok (.lastore, 1) := by decide +kernel
theorem dX12_laysPoly_160 : decode cX12_laysPoly 160 = .ok (.iinc 4 1, 3) := by decide +kernel
theorem dX12_laysPoly_163 : decode cX12_laysPoly 163 = .ok (.goto (-118), 3) := by decide +kernel
theorem dX12_laysPoly_166 : decode cX12_laysPoly 166 = .ok (.iinc 3 1, 3) := by decide +kernel
theorem dX12_laysPoly_169 : decode cX12_laysPoly 169 = .ok (.goto (-139), 3) := by decide +kernel
theorem dX12_laysPoly_172 : decode cX12_laysPoly 172 = .ok (.return_, 1) := by decide +kernel
theorem dX12_number_0 : decode cX12_number 0 = .ok (.iload_n 1, 1) := by decide +kernel
theorem dX12_number_1 : decode cX12_number 1 = .ok (.invokestatic 253, 3) := by decide +kernel
theorem dX12_number_4 : decode cX12_number 4 = .ok (.ifCond .eq 35, 3) := by decide +kernel
theorem dX12_number_7 : decode cX12_number 7 = .ok (.aload_n 0, 1) := by decide +kernel
theorem dX12_number_8 : decode cX12_number 8 = .ok (.getfield 48, 3) := by decide +kernel
theorem dX12_number_11 : decode cX12_number 11 = .ok (.iload_n 1, 1) := by decide +kernel
theorem dX12_number_12 : decode cX12_number 12 = .ok (.iaload, 1) := by decide +kernel
theorem dX12_number_13 : decode cX12_number 13 = .ok (.ifCond .eq 26, 3) := by decide +kernel
theorem dX12_number_16 : decode cX12_number 16 = .ok (.iload_n 2, 1) := by decide +kernel
theorem dX12_number_17 : decode cX12_number 17 = .ok (.iconst 0, 1) := by decide +kernel
theorem dX12_number_18 : decode cX12_number 18 = .ok (.aload_n 0, 1) := by decide +kernel
theorem dX12_number_19 : decode cX12_number 19 = .ok (.getfield 48, 3) := by decide +kernel
theorem dX12_number_22 : decode cX12_number 22 = .ok (.iload_n 1, 1) := by decide +kernel
theorem dX12_number_23 : decode cX12_number 23 = .ok (.iaload, 1) := by decide +kernel
theorem dX12_number_24 : decode cX12_number 24 = .ok (.invokestatic 134, 3) := by decide +kernel
theorem dX12_number_27 : decode cX12_number 27 = .ok (.ifCond .eq 12, 3) := by decide +kernel
theorem dX12_number_30 : decode cX12_number 30 = .ok (.iload_n 3, 1) := by decide +kernel
theorem dX12_number_31 : decode cX12_number 31 = .ok (.iconst 0, 1) := by decide +kernel
theorem dX12_number_32 : decode cX12_number 32 = .ok (.iload_n 2, 1) := by decide +kernel
theorem dX12_number_33 : decode cX12_number 33 = .ok (.invokestatic 134, 3) := by decide +kernel
theorem dX12_number_36 : decode cX12_number 36 = .ok (.ifCond .ne 7, 3) := by decide +kernel
theorem dX12_number_39 : decode cX12_number 39 = .ok (.ldc2_w 156, 3) := by decide +kernel
theorem dX12_number_42 : decode cX12_number 42 = .ok (.lreturn, 1) := by decide +kernel
theorem dX12_number_43 : decode cX12_number 43 = .ok (.aload_n 0, 1) := by decide +kernel
theorem dX12_number_44 : decode cX12_number 44 = .ok (.iload_n 1, 1) := by decide +kernel
theorem dX12_number_45 : decode cX12_number 45 = .ok (.iconst 0, 1) := by decide +kernel
theorem dX12_number_46 : decode cX12_number 46 = .ok (.invokevirtual 275, 3) := by decide +kernel
theorem dX12_number_49 : decode cX12_number 49 = .ok (.aload_n 0, 1) := by decide +kernel
theorem dX12_number_50 : decode cX12_number 50 = .ok (.getfield 75, 3) := by decide +kernel
theorem dX12_number_53 : decode cX12_number 53 = .ok (.bipush 6, 2) := by decide +kernel
theorem dX12_number_55 : decode cX12_number 55 = .ok (.iload_n 2, 1) := by decide +kernel
theorem dX12_number_56 : decode cX12_number 56 = .ok (.imul, 1) := by decide +kernel
theorem dX12_number_57 : decode cX12_number 57 = .ok (.iload_n 3, 1) := by decide +kernel
theorem dX12_number_58 : decode cX12_number 58 = .ok (.iadd, 1) := by decide +kernel
theorem dX12_number_59 : decode cX12_number 59 = .ok (.laload, 1) := by decide +kernel
theorem dX12_number_60 : decode cX12_number 60 = .ok (.lreturn, 1) := by decide +kernel
theorem dX12_valueAt_0 : decode cX12_valueAt 0 = .ok (.lconst 1, 1) := by decide +kernel
theorem dX12_valueAt_1 : decode cX12_valueAt 1 = .ok (.lstore 6, 2) := by decide +kernel
theorem dX12_valueAt_3 : decode cX12_valueAt 3 = .ok (.lconst 0, 1) := by decide +kernel
theorem dX12_valueAt_4 : decode cX12_valueAt 4 = .ok (.lstore 8, 2) := by decide +kernel
theorem dX12_valueAt_6 : decode cX12_valueAt 6 = .ok (.iconst 0, 1) := by decide +kernel
theorem dX12_valueAt_7 : decode cX12_valueAt 7 = .ok (.istore 10, 2) := by decide +kernel
theorem dX12_valueAt_9 : decode cX12_valueAt 9 = .ok (.iload 10, 2) := by decide +kernel
theorem dX12_valueAt_11 : decode cX12_valueAt 11 = .ok (.iload_n 3, 1) := by decide +kernel
theorem dX12_valueAt_12 : decode cX12_valueAt 12 = .ok (.if_icmp .ge 60, 3) := by decide +kernel
theorem dX12_valueAt_15 : decode cX12_valueAt 15 = .ok (.lload 4, 2) := by decide +kernel
theorem dX12_valueAt_17 : decode cX12_valueAt 17 = .ok (.aload_n 0, 1) := by decide +kernel
theorem dX12_valueAt_18 : decode cX12_valueAt 18 = .ok (.iload_n 1, 1) := by decide +kernel
theorem dX12_valueAt_19 : decode cX12_valueAt 19 = .ok (.iload_n 2, 1) := by decide +kernel
theorem dX12_valueAt_20 : decode cX12_valueAt 20 = .ok (.iload 10, 2) := by decide +kernel
theorem dX12_valueAt_22 : decode cX12_valueAt 22 = .ok (.iadd, 1) := by decide +kernel
theorem dX12_valueAt_23 : decode cX12_valueAt 23 = .ok (.invokevirtual 256, 3) := by decide +kernel
