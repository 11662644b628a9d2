theorem dX5_areAlike_101 : decode cX5_areAlike 101 = .ok (.aload_n 0, 1) := by decide +kernel
theorem dX5_areAlike_102 : decode cX5_areAlike 102 = .ok (.getfield 13, 3) := by decide +kernel
theorem dX5_areAlike_105 : decode cX5_areAlike 105 = .ok (.sipush 201, 3) := by decide +kernel
theorem dX5_areAlike_108 : decode cX5_areAlike 108 = .ok (.iload_n 2, 1) := by decide +kernel
theorem dX5_areAlike_109 : decode cX5_areAlike 109 = .ok (.imul, 1) := by decide +kernel
theorem dX5_areAlike_110 : decode cX5_areAlike 110 = .ok (.iload 4, 2) := by decide +kernel
theorem dX5_areAlike_112 : decode cX5_areAlike 112 = .ok (.iadd, 1) := by decide +kernel
theorem dX5_areAlike_113 : decode cX5_areAlike 113 = .ok (.iaload, 1) := by decide +kernel
theorem dX5_areAlike_114 : decode cX5_areAlike 114 = .ok (.if_icmp .ne 7, 3) := by decide +kernel
theorem dX5_areAlike_117 : decode cX5_areAlike 117 = .ok (.iconst 1, 1) := by decide +kernel
theorem dX5_areAlike_118 : decode cX5_areAlike 118 = .ok (.goto 4, 3) := by decide +kernel
theorem dX5_areAlike_121 : decode cX5_areAlike 121 = .ok (.iconst 0, 1) := by decide +kernel
theorem dX5_areAlike_122 : decode cX5_areAlike 122 = .ok (.istore_n 3, 1) := by decide +kernel
theorem dX5_areAlike_123 : decode cX5_areAlike 123 = .ok (.iinc 4 1, 3) := by decide +kernel
theorem dX5_areAlike_126 : decode cX5_areAlike 126 = .ok (.goto (-82), 3) := by decide +kernel
theorem dX5_areAlike_129 : decode cX5_areAlike 129 = .ok (.aload_n 0, 1) := by decide +kernel
theorem dX5_areAlike_130 : decode cX5_areAlike 130 = .ok (.iload_n 3, 1) := by decide +kernel
theorem dX5_areAlike_131 : decode cX5_areAlike 131 = .ok (.invokevirtual 82, 3) := by decide +kernel
theorem dX5_areAlike_134 : decode cX5_areAlike 134 = .ok (.ireturn, 1) := by decide +kernel
theorem dX5_hash_0 : decode cX5_hash 0 = .ok (.iload_n 1, 1) := by decide +kernel
theorem dX5_hash_1 : decode cX5_hash 1 = .ok (.invokestatic 68, 3) := by decide +kernel
theorem dX5_hash_4 : decode cX5_hash 4 = .ok (.ifCond .ne 9, 3) := by decide +kernel
theorem dX5_hash_7 : decode cX5_hash 7 = .ok (.aload_n 0, 1) := by decide +kernel
theorem dX5_hash_8 : decode cX5_hash 8 = .ok (.iconst 1, 1) := by decide +kernel
theorem dX5_hash_9 : decode cX5_hash 9 = .ok (.invokevirtual 58, 3) := by decide +kernel
theorem dX5_hash_12 : decode cX5_hash 12 = .ok (.ireturn, 1) := by decide +kernel
theorem dX5_hash_13 : decode cX5_hash 13 = .ok (.iconst 0, 1) := by decide +kernel
theorem dX5_hash_14 : decode cX5_hash 14 = .ok (.istore_n 2, 1) := by decide +kernel
theorem dX5_hash_15 : decode cX5_hash 15 = .ok (.iconst 0, 1) := by decide +kernel
theorem dX5_hash_16 : decode cX5_hash 16 = .ok (.istore_n 3, 1) := by decide +kernel
theorem dX5_hash_17 : decode cX5_hash 17 = .ok (.iload_n 3, 1) := by decide +kernel
theorem dX5_hash_18 : decode cX5_hash 18 = .ok (.aload_n 0, 1) := by decide +kernel
theorem dX5_hash_19 : decode cX5_hash 19 = .ok (.getfield 16, 3) := by decide +kernel
theorem dX5_hash_22 : decode cX5_hash 22 = .ok (.iload_n 1, 1) := by decide +kernel
theorem dX5_hash_23 : decode cX5_hash 23 = .ok (.iaload, 1) := by decide +kernel
theorem dX5_hash_24 : decode cX5_hash 24 = .ok (.if_icmp .ge 37, 3) := by decide +kernel
theorem dX5_hash_27 : decode cX5_hash 27 = .ok (.iload_n 2, 1) := by decide +kernel
theorem dX5_hash_28 : decode cX5_hash 28 = .ok (.aload_n 0, 1) := by decide +kernel
theorem dX5_hash_29 : decode cX5_hash 29 = .ok (.getfield 7, 3) := by decide +kernel
theorem dX5_hash_32 : decode cX5_hash 32 = .ok (.sipush 201, 3) := by decide +kernel
theorem dX5_hash_35 : decode cX5_hash 35 = .ok (.iload_n 1, 1) := by decide +kernel
theorem dX5_hash_36 : decode cX5_hash 36 = .ok (.imul, 1) := by decide +kernel
theorem dX5_hash_37 : decode cX5_hash 37 = .ok (.iload_n 3, 1) := by decide +kernel
theorem dX5_hash_38 : decode cX5_hash 38 = .ok (.iadd, 1) := by decide +kernel
theorem dX5_hash_39 : decode cX5_hash 39 = .ok (.iaload, 1) := by decide +kernel
theorem dX5_hash_40 : decode cX5_hash 40 = .ok (.aload_n 0, 1) := by decide +kernel
theorem dX5_hash_41 : decode cX5_hash 41 = .ok (.getfield 13, 3) := by decide +kernel
theorem dX5_hash_44 : decode cX5_hash 44 = .ok (.sipush 201, 3) := by decide +kernel
theorem dX5_hash_47 : decode cX5_hash 47 = .ok (.iload_n 1, 1) := by decide +kernel
theorem dX5_hash_48 : decode cX5_hash 48 = .ok (.imul, 1) := by decide +kernel
theorem dX5_hash_49 : decode cX5_hash 49 = .ok (.iload_n 3, 1) := by decide +kernel
theorem dX5_hash_50 : decode cX5_hash 50 = .ok (.iadd, 1) := by decide +kernel
theorem dX5_hash_51 : decode cX5_hash 51 = .ok (.iaload, 1) := by decide +kernel
theorem dX5_hash_52 : decode cX5_hash 52 = .ok (.ixor, 1) := by decide +kernel
theorem dX5_hash_53 : decode cX5_hash 53 = .ok (.iadd, 1) := by decide +kernel
theorem dX5_hash_54 : decode cX5_hash 54 = .ok (.istore_n 2, 1) := by decide +kernel
theorem dX5_hash_55 : decode cX5_hash 55 = .ok (.iinc 3 1, 3) := by decide +kernel
theorem dX5_hash_58 : decode cX5_hash 58 = .ok (.goto (-41), 3) := by decide +kernel
theorem dX5_hash_61 : decode cX5_hash 61 = .ok (.aload_n 0, 1) := by decide +kernel
theorem dX5_hash_62 : decode cX5_hash 62 = .ok (.iload_n 2, 1) := by decide +kernel
theorem dX5_hash_63 : decode cX5_hash 63 = .ok (.invokevirtual 65, 3) := by decide +kernel
theorem dX5_hash_66 : decode cX5_hash 66 = .ok (.ireturn, 1) := by decide +kernel
theorem dX5_sum_0 : decode cX5_sum 0 = .ok (.aload_n 0, 1) := by decide +kernel
theorem dX5_sum_1 : decode cX5_sum 1 = .ok (.iload_n 1, 1) := by decide +kernel
theorem dX5_sum_2 : decode cX5_sum 2 = .ok (.invokestatic 68, 3) := by decide +kernel
theorem dX5_sum_5 : decode cX5_sum 5 = .ok (.ifCond .eq 7, 3) := by decide +kernel
theorem dX5_sum_8 : decode cX5_sum 8 = .ok (.iconst 0, 1) := by decide +kernel
theorem dX5_sum_9 : decode cX5_sum 9 = .ok (.goto 4, 3) := by decide +kernel
theorem dX5_sum_12 : decode cX5_sum 12 = .ok (.iconst 1, 1) := by decide +kernel
theorem dX5_sum_13 : decode cX5_sum 13 = .ok (.putfield 39, 3) := by decide +kernel
theorem dX5_sum_16 : decode cX5_sum 16 = .ok (.lconst 0, 1) := by decide +kernel
theorem dX5_sum_17 : decode cX5_sum 17 = .ok (.lstore_n 2, 1) := by decide +kernel
theorem dX5_sum_18 : decode cX5_sum 18 = .ok (.iconst 0, 1) := by decide +kernel
theorem dX5_sum_19 : decode cX5_sum 19 = .ok (.istore 4, 2) := by decide +kernel
theorem dX5_sum_21 : decode cX5_sum 21 = .ok (.aload_n 0, 1) := by decide +kernel
theorem dX5_sum_22 : decode cX5_sum 22 = .ok (.getfield 39, 3) := by decide +kernel
theorem dX5_sum_25 : decode cX5_sum 25 = .ok (.ifCond .ne 62, 3) := by decide +kernel
theorem dX5_sum_28 : decode cX5_sum 28 = .ok (.iload 4, 2) := by decide +kernel
theorem dX5_sum_30 : decode cX5_sum 30 = .ok (.aload_n 0, 1) := by decide +kernel
theorem dX5_sum_31 : decode cX5_sum 31 = .ok (.getfield 16, 3) := by decide +kernel
theorem dX5_sum_34 : decode cX5_sum 34 = .ok (.iload_n 1, 1) := by decide +kernel
theorem dX5_sum_35 : decode cX5_sum 35 = .ok (.iaload, 1) := by decide +kernel
theorem dX5_sum_36 : decode cX5_sum 36 = .ok (.if_icmp .ge 51, 3) := by decide +kernel
theorem dX5_sum_39 : decode cX5_sum 39 = .ok (.lload_n 2, 1) := by decide +kernel
theorem dX5_sum_40 : decode cX5_sum 40 = .ok (.iload 4, 2) := by decide +kernel
theorem dX5_sum_42 : decode cX5_sum 42 = .ok (.i2l, 1) := by decide +kernel
theorem dX5_sum_43 : decode cX5_sum 43 = .ok (.lconst 1, 1) := by decide +kernel
theorem dX5_sum_44 : decode cX5_sum 44 = .ok (.ladd, 1) := by decide +kernel
theorem dX5_sum_45 : decode cX5_sum 45 = .ok (.aload_n 0, 1) := by decide +kernel
theorem dX5_sum_46 : decode cX5_sum 46 = .ok (.getfield 7, 3) := by decide +kernel
theorem dX5_sum_49 : decode cX5_sum 49 = .ok (.sipush 201, 3) := by decide +kernel
theorem dX5_sum_52 : decode cX5_sum 52 = .ok (.iload_n 1, 1) := by decide +kernel
theorem dX5_sum_53 : decode cX5_sum 53 = .ok (.imul, 1) := by decide +kernel
theorem dX5_sum_54 : decode cX5_sum 54 = .ok (.iload 4, 2) := by decide +kernel
theorem dX5_sum_56 : decode cX5_sum 56 = .ok (.iadd, 1) := by decide +kernel
theorem dX5_sum_57 : decode cX5_sum 57 = .ok (.iaload, 1) := by decide +kernel
theorem dX5_sum_58 : decode cX5_sum 58 = .ok (.i2l, 1) := by decide +kernel
theorem dX5_sum_59 : decode cX5_sum 59 = .ok (.ldc2_w 107, 3) := by decide +kernel
theorem dX5_sum_62 : decode cX5_sum 62 = .ok (.aload_n 0, 1) := by decide +kernel
theorem dX5_sum_63 : decode cX5_sum 63 = .ok (.getfield 13, 3) := by decide +kernel
theorem dX5_sum_66 : decode cX5_sum 66 = .ok (.sipush 201, 3) := by decide +kernel
theorem dX5_sum_69 : decode cX5_sum 69 = .ok (.iload_n 1, 1) := by decide +kernel
theorem dX5_sum_70 : decode cX5_sum 70 = .ok (.imul, 1) := by decide +kernel
theorem dX5_sum_71 : decode cX5_sum 71 = .ok (.iload 4, 2) := by decide +kernel
theorem dX5_sum_73 : decode cX5_sum 73 = .ok (.iadd, 1) := by decide +kernel
theorem dX5_sum_74 : decode cX5_sum 74 = .ok (.iaload, 1) := by decide +kernel
theorem dX5_sum_75 : decode cX5_sum 75 = .ok (.i2l, 1) := by decide +kernel
theorem dX5_sum_76 : decode cX5_sum 76 = .ok (.lmul, 1) := by decide +kernel
theorem dX5_sum_77 : decode cX5_sum 77 = .ok (.ladd, 1) := by decide +kernel
theorem dX5_sum_78 : decode cX5_sum 78 = .ok (.lmul, 1) := by decide +kernel
theorem dX5_sum_79 : decode cX5_sum 79 = .ok (.ladd, 1) := by decide +kernel
theorem dX5_sum_80 : decode cX5_sum 80 = .ok (.lstore_n 2, 1) := by decide +kernel
theorem dX5_sum_81 : decode cX5_sum 81 = .ok (.iinc 4 1, 3) := by decide +kernel
theorem dX5_sum_84 : decode cX5_sum 84 = .ok (.goto (-63), 3) := by decide +kernel
theorem dX5_sum_87 : decode cX5_sum 87 = .ok (.lload_n 2, 1) := by decide +kernel
theorem dX5_sum_88 : decode cX5_sum 88 = .ok (.lreturn, 1) := by decide +kernel
theorem dX5_writes_0 : decode cX5_writes 0 = .ok (.aload_n 0, 1) := by decide +kernel
theorem dX5_writes_1 : decode cX5_writes 1 = .ok (.getfield 36, 3) := by decide +kernel
theorem dX5_writes_4 : decode cX5_writes 4 = .ok (.aload_n 0, 1) := by decide +kernel
theorem dX5_writes_5 : decode cX5_writes 5 = .ok (.getfield 109, 3) := by decide +kernel
theorem dX5_writes_8 : decode cX5_writes 8 = .ok (.iload_n 1, 1) := by decide +kernel
theorem dX5_writes_9 : decode cX5_writes 9 = .ok (.iastore, 1) := by decide +kernel
theorem dX5_writes_10 : decode cX5_writes 10 = .ok (.aload_n 0, 1) := by decide +kernel
theorem dX5_writes_11 : decode cX5_writes 11 = .ok (.dup, 1) := by decide +kernel
theorem dX5_writes_12 : decode cX5_writes 12 = .ok (.getfield 109, 3) := by decide +kernel
theorem dX5_writes_15 : decode cX5_writes 15 = .ok (.iconst 1, 1) := by decide +kernel
theorem dX5_writes_16 : decode cX5_writes 16 = .ok (.iadd, 1) := by decide +kernel
theorem dX5_writes_17 : decode cX5_writes 17 = .ok (.putfield 109, 3) := by decide +kernel
theorem dX5_writes_20 : decode cX5_writes 20 = .ok (.return_, 1) := by decide +kernel
theorem dX5_writesNumber_0 : decode cX5_writesNumber 0 = .ok (.iload_n 1, 1) := by decide +kernel
theorem dX5_writesNumber_1 : decode cX5_writesNumber 1 = .ok (.ifCond .ge 9, 3) := by decide +kernel
theorem dX5_writesNumber_4 : decode cX5_writesNumber 4 = .ok (.iload_n 1, 1) := by decide +kernel
theorem dX5_writesNumber_5 : decode cX5_writesNumber 5 = .ok (.i2l, 1) := by decide +kernel
theorem dX5_writesNumber_6 : decode cX5_writesNumber 6 = .ok (.lneg, 1) := by decide +kernel
theorem dX5_writesNumber_7 : decode cX5_writesNumber 7 = .ok (.goto 5, 3) := by decide +kernel
theorem dX5_writesNumber_10 : decode cX5_writesNumber 10 = .ok (.iload_n 1, 1) := by decide +kernel
theorem dX5_writesNumber_11 : decode cX5_writesNumber 11 = .ok (.i2l, 1) := by decide +kernel
theorem dX5_writesNumber_12 : decode cX5_writesNumber 12 = .ok (.lstore_n 2, 1) := by decide +kernel
theorem dX5_writesNumber_13 : decode cX5_writesNumber 13 = .ok (.iload_n 1, 1) := by decide +kernel
theorem dX5_writesNumber_14 : decode cX5_writesNumber 14 = .ok (.ifCond .ge 9, 3) := by decide +kernel
theorem dX5_writesNumber_17 : decode cX5_writesNumber 17 = .ok (.aload_n 0, 1) := by decide +kernel
theorem dX5_writesNumber_18 : decode cX5_writesNumber 18 = .ok (.bipush 45, 2) := by decide +kernel
theorem dX5_writesNumber_20 : decode cX5_writesNumber 20 = .ok (.invokevirtual 112, 3) := by decide +kernel
theorem dX5_writesNumber_23 : decode cX5_writesNumber 23 = .ok (.lconst 1, 1) := by decide +kernel
theorem dX5_writesNumber_24 : decode cX5_writesNumber 24 = .ok (.lstore 4, 2) := by decide +kernel
theorem dX5_writesNumber_26 : decode cX5_writesNumber 26 = .ok (.lload_n 2, 1) := by decide +kernel
theorem dX5_writesNumber_27 : decode cX5_writesNumber 27 = .ok (.lload 4, 2) := by decide +kernel
theorem dX5_writesNumber_29 : decode cX5_writesNumber 29 = .ok (.ldiv, 1) := by decide +kernel
theorem dX5_writesNumber_30 : decode cX5_writesNumber 30 = .ok (.ldc2_w 116, 3) := by decide +kernel
theorem dX5_writesNumber_33 : decode cX5_writesNumber 33 = .ok (.lcmp, 1) := by decide +kernel
theorem dX5_writesNumber_34 : decode cX5_writesNumber 34 = .ok (.ifCond .lt 14, 3) := by decide +kernel
theorem dX5_writesNumber_37 : decode cX5_writesNumber 37 = .ok (.lload 4, 2) := by decide +kernel
theorem dX5_writesNumber_39 : decode cX5_writesNumber 39 = .ok (.ldc2_w 116, 3) := by decide +kernel
theorem dX5_writesNumber_42 : decode cX5_writesNumber 42 = .ok (.lmul, 1) := by decide +kernel
theorem dX5_writesNumber_43 : decode cX5_writesNumber 43 = .ok (.lstore 4, 2) := by decide +kernel
theorem dX5_writesNumber_45 : decode cX5_writesNumber 45 = .ok (.goto (-19), 3) := by decide +kernel
theorem dX5_writesNumber_48 : decode cX5_writesNumber 48 = .ok (.lload 4, 2) := by decide +kernel
theorem dX5_writesNumber_50 : decode cX5_writesNumber 50 = .ok (.lconst 0, 1) := by decide +kernel
theorem dX5_writesNumber_51 : decode cX5_writesNumber 51 = .ok (.lcmp, 1) := by decide +kernel
theorem dX5_writesNumber_52 : decode cX5_writesNumber 52 = .ok (.ifCond .le 31, 3) := by decide +kernel
theorem dX5_writesNumber_55 : decode cX5_writesNumber 55 = .ok (.aload_n 0, 1) := by decide +kernel
theorem dX5_writesNumber_56 : decode cX5_writesNumber 56 = .ok (.ldc2_w 118, 3) := by decide +kernel
theorem dX5_writesNumber_59 : decode cX5_writesNumber 59 = .ok (.lload_n 2, 1) := by decide +kernel
theorem dX5_writesNumber_60 : decode cX5_writesNumber 60 = .ok (.lload 4, 2) := by decide +kernel
theorem dX5_writesNumber_62 : decode cX5_writesNumber 62 = .ok (.ldiv, 1) := by decide +kernel
theorem dX5_writesNumber_63 : decode cX5_writesNumber 63 = .ok (.ldc2_w 116, 3) := by decide +kernel
theorem dX5_writesNumber_66 : decode cX5_writesNumber 66 = .ok (.lrem, 1) := by decide +kernel
theorem dX5_writesNumber_67 : decode cX5_writesNumber 67 = .ok (.ladd, 1) := by decide +kernel
theorem dX5_writesNumber_68 : decode cX5_writesNumber 68 = .ok (.l2i, 1) := by decide +kernel
theorem dX5_writesNumber_69 : decode cX5_writesNumber 69 = .ok (.invokevirtual 112, 3) := by decide +kernel
theorem dX5_writesNumber_72 : decode cX5_writesNumber 72 = .ok (.lload 4, 2) := by decide +kernel
theorem dX5_writesNumber_74 : decode cX5_writesNumber 74 = .ok (.ldc2_w 116, 3) := by decide +kernel
theorem dX5_writesNumber_77 : decode cX5_writesNumber 77 = .ok (.ldiv, 1) := by decide +kernel
theorem dX5_writesNumber_78 : decode cX5_writesNumber 78 = .ok (.lstore 4, 2) := by decide +kernel
theorem dX5_writesNumber_80 : decode cX5_writesNumber 80 = .ok (.goto (-32), 3) := by decide +kernel
theorem dX5_writesNumber_83 : decode cX5_writesNumber 83 = .ok (.return_, 1) := by decide +kernel
theorem dX5_write_0 : decode cX5_write 0 = .ok (.iload_n 1, 1) := by decide +kernel
theorem dX5_write_1 : decode cX5_write 1 = .ok (.invokestatic 68, 3) := by decide +kernel
theorem dX5_write_4 : decode cX5_write 4 = .ok (.ifCond .ne 9, 3) := by decide +kernel
theorem dX5_write_7 : decode cX5_write 7 = .ok (.aload_n 0, 1) := by decide +kernel
theorem dX5_write_8 : decode cX5_write 8 = .ok (.iconst 1, 1) := by decide +kernel
theorem dX5_write_9 : decode cX5_write 9 = .ok (.invokevirtual 58, 3) := by decide +kernel
theorem dX5_write_12 : decode cX5_write 12 = .ok (.ireturn, 1) := by decide +kernel
theorem dX5_write_13 : decode cX5_write 13 = .ok (.aload_n 0, 1) := by decide +kernel
theorem dX5_write_14 : decode cX5_write 14 = .ok (.iconst 0, 1) := by decide +kernel
theorem dX5_write_15 : decode cX5_write 15 = .ok (.putfield 109, 3) := by decide +kernel
theorem dX5_write_18 : decode cX5_write 18 = .ok (.aload_n 0, 1) := by decide +kernel
theorem dX5_write_19 : decode cX5_write 19 = .ok (.bipush 123, 2) := by decide +kernel
theorem dX5_write_21 : decode cX5_write 21 = .ok (.invokevirtual 112, 3) := by decide +kernel
theorem dX5_write_24 : decode cX5_write 24 = .ok (.iconst 0, 1) := by decide +kernel
theorem dX5_write_25 : decode cX5_write 25 = .ok (.istore_n 2, 1) := by decide +kernel
theorem dX5_write_26 : decode cX5_write 26 = .ok (.iload_n 2, 1) := by decide +kernel
theorem dX5_write_27 : decode cX5_write 27 = .ok (.aload_n 0, 1) := by decide +kernel
theorem dX5_write_28 : decode cX5_write 28 = .ok (.getfield 16, 3) := by decide +kernel
theorem dX5_write_31 : decode cX5_write 31 = .ok (.iload_n 1, 1) := by decide +kernel
theorem dX5_write_32 : decode cX5_write 32 = .ok (.iaload, 1) := by decide +kernel
theorem dX5_write_33 : decode cX5_write 33 = .ok (.if_icmp .ge 63, 3) := by decide +kernel
theorem dX5_write_36 : decode cX5_write 36 = .ok (.iload_n 2, 1) := by decide +kernel
theorem dX5_write_37 : decode cX5_write 37 = .ok (.ifCond .le 15, 3) := by decide +kernel
theorem dX5_write_40 : decode cX5_write 40 = .ok (.aload_n 0, 1) := by decide +kernel
theorem dX5_write_41 : decode cX5_write 41 = .ok (.bipush 44, 2) := by decide +kernel
theorem dX5_write_43 : decode cX5_write 43 = .ok (.invokevirtual 112, 3) := by decide +kernel
theorem dX5_write_46 : decode cX5_write 46 = .ok (.aload_n 0, 1) := by decide +kernel
theorem dX5_write_47 : decode cX5_write 47 = .ok (.bipush 32, 2) := by decide +kernel
theorem dX5_write_49 : decode cX5_write 49 = .ok (.invokevirtual 112, 3) := by decide +kernel
theorem dX5_write_52 : decode cX5_write 52 = .ok (.aload_n 0, 1) := by decide +kernel
theorem dX5_write_53 : decode cX5_write 53 = .ok (.aload_n 0, 1) := by decide +kernel
theorem dX5_write_54 : decode cX5_write 54 = .ok (.getfield 7, 3) := by decide +kernel
theorem dX5_write_57 : decode cX5_write 57 = .ok (.sipush 201, 3) := by decide +kernel
theorem dX5_write_60 : decode cX5_write 60 = .ok (.iload_n 1, 1) := by decide +kernel
theorem dX5_write_61 : decode cX5_write 61 = .ok (.imul, 1) := by decide +kernel
theorem dX5_write_62 : decode cX5_write 62 = .ok (.iload_n 2, 1) := by decide +kernel
theorem dX5_write_63 : decode cX5_write 63 = .ok (.iadd, 1) := by decide +kernel
theorem dX5_write_64 : decode cX5_write 64 = .ok (.iaload, 1) := by decide +kernel
theorem dX5_write_65 : decode cX5_write 65 = .ok (.invokevirtual 120, 3) := by decide +kernel
theorem dX5_write_68 : decode cX5_write 68 = .ok (.aload_n 0, 1) := by decide +kernel
theorem dX5_write_69 : decode cX5_write 69 = .ok (.bipush 61, 2) := by decide +kernel
theorem dX5_write_71 : decode cX5_write 71 = .ok (.invokevirtual 112, 3) := by decide +kernel
theorem dX5_write_74 : decode cX5_write 74 = .ok (.aload_n 0, 1) := by decide +kernel
theorem dX5_write_75 : decode cX5_write 75 = .ok (.aload_n 0, 1) := by decide +kernel
theorem dX5_write_76 : decode cX5_write 76 = .ok (.getfield 13, 3) := by decide +kernel
theorem dX5_write_79 : decode cX5_write 79 = .ok (.sipush 201, 3) := by decide +kernel
theorem dX5_write_82 : decode cX5_write 82 = .ok (.iload_n 1, 1) := by decide +kernel
theorem dX5_write_83 : decode cX5_write 83 = .ok (.imul, 1) := by decide +kernel
theorem dX5_write_84 : decode cX5_write 84 = .ok (.iload_n 2, 1) := by decide +kernel
theorem dX5_write_85 : decode cX5_write 85 = .ok (.iadd, 1) := by decide +kernel
theorem dX5_write_86 : decode cX5_write 86 = .ok (.iaload, 1) := by decide +kernel
theorem dX5_write_87 : decode cX5_write 87 = .ok (.invokevirtual 120, 3) := by decide +kernel
theorem dX5_write_90 : decode cX5_write 90 = .ok (.iinc 2 1, 3) := by decide +kernel
theorem dX5_write_93 : decode cX5_write 93 = .ok (.goto (-67), 3) := by decide +kernel
theorem dX5_write_96 : decode cX5_write 96 = .ok (.aload_n 0, 1) := by decide +kernel
theorem dX5_write_97 : decode cX5_write 97 = .ok (.bipush 125, 2) := by decide +kernel
theorem dX5_write_99 : decode cX5_write 99 = .ok (.invokevirtual 112, 3) := by decide +kernel
theorem dX5_write_102 : decode cX5_write 102 = .ok (.aload_n 0, 1) := by decide +kernel
theorem dX5_write_103 : decode cX5_write 103 = .ok (.aload_n 0, 1) := by decide +kernel
theorem dX5_write_104 : decode cX5_write 104 = .ok (.getfield 109, 3) := by decide +kernel
theorem dX5_write_107 : decode cX5_write 107 = .ok (.invokevirtual 65, 3) := by decide +kernel
theorem dX5_write_110 : decode cX5_write 110 = .ok (.ireturn, 1) := by decide +kernel
theorem dX5_outputAt_0 : decode cX5_outputAt 0 = .ok (.iload_n 1, 1) := by decide +kernel
theorem dX5_outputAt_1 : decode cX5_outputAt 1 = .ok (.iconst 0, 1) := by decide +kernel
theorem dX5_outputAt_2 : decode cX5_outputAt 2 = .ok (.aload_n 0, 1) := by decide +kernel
theorem dX5_outputAt_3 : decode cX5_outputAt 3 = .ok (.getfield 109, 3) := by decide +kernel
theorem dX5_outputAt_6 : decode cX5_outputAt 6 = .ok (.iconst 1, 1) := by decide +kernel
theorem dX5_outputAt_7 : decode cX5_outputAt 7 = .ok (.isub, 1) := by decide +kernel
theorem dX5_outputAt_8 : decode cX5_outputAt 8 = .ok (.invokestatic 42, 3) := by decide +kernel
theorem dX5_outputAt_11 : decode cX5_outputAt 11 = .ok (.ifCond .eq 16, 3) := by decide +kernel
theorem dX5_outputAt_14 : decode cX5_outputAt 14 = .ok (.aload_n 0, 1) := by decide +kernel
theorem dX5_outputAt_15 : decode cX5_outputAt 15 = .ok (.aload_n 0, 1) := by decide +kernel
theorem dX5_outputAt_16 : decode cX5_outputAt 16 = .ok (.getfield 36, 3) := by decide +kernel
theorem dX5_outputAt_19 : decode cX5_outputAt 19 = .ok (.iload_n 1, 1) := by decide +kernel
theorem dX5_outputAt_20 : decode cX5_outputAt 20 = .ok (.iaload, 1) := by decide +kernel
theorem dX5_outputAt_21 : decode cX5_outputAt 21 = .ok (.invokevirtual 65, 3) := by decide +kernel
theorem dX5_outputAt_24 : decode cX5_outputAt 24 = .ok (.goto 8, 3) := by decide +kernel
theorem dX5_outputAt_27 : decode cX5_outputAt 27 = .ok (.aload_n 0, 1) := by decide +kernel
theorem dX5_outputAt_28 : decode cX5_outputAt 28 = .ok (.iconst 1, 1) := by decide +kernel
theorem dX5_outputAt_29 : decode cX5_outputAt 29 = .ok (.invokevirtual 58, 3) := by decide +kernel
theorem dX5_outputAt_32 : decode cX5_outputAt 32 = .ok (.ireturn, 1) := by decide +kernel
theorem dX5_isAddRefused_0 : decode cX5_isAddRefused 0 = .ok (.iload_n 1, 1) := by decide +kernel
theorem dX5_isAddRefused_1 : decode cX5_isAddRefused 1 = .ok (.invokestatic 68, 3) := by decide +kernel
theorem dX5_isAddRefused_4 : decode cX5_isAddRefused 4 = .ok (.ifCond .ne 9, 3) := by decide +kernel
theorem dX5_isAddRefused_7 : decode cX5_isAddRefused 7 = .ok (.aload_n 0, 1) := by decide +kernel
theorem dX5_isAddRefused_8 : decode cX5_isAddRefused 8 = .ok (.iconst 1, 1) := by decide +kernel
theorem dX5_isAddRefused_9 : decode cX5_isAddRefused 9 = .ok (.invokevirtual 72, 3) := by decide +kernel
theorem dX5_isAddRefused_12 : decode cX5_isAddRefused 12 = .ok (.ireturn, 1) := by decide +kernel
theorem dX5_isAddRefused_13 : decode cX5_isAddRefused 13 = .ok (.iload_n 2, 1) := by decide +kernel
theorem dX5_isAddRefused_14 : decode cX5_isAddRefused 14 = .ok (.iconst 0, 1) := by decide +kernel
theorem dX5_isAddRefused_15 : decode cX5_isAddRefused 15 = .ok (.iconst 2, 1) := by decide +kernel
theorem dX5_isAddRefused_16 : decode cX5_isAddRefused 16 = .ok (.invokestatic 42, 3) := by decide +kernel
theorem dX5_isAddRefused_19 : decode cX5_isAddRefused 19 = .ok (.ifCond .eq 11, 3) := by decide +kernel
theorem dX5_isAddRefused_22 : decode cX5_isAddRefused 22 = .ok (.aload_n 0, 1) := by decide +kernel
theorem dX5_isAddRefused_23 : decode cX5_isAddRefused 23 = .ok (.iconst 1, 1) := by decide +kernel
theorem dX5_isAddRefused_24 : decode cX5_isAddRefused 24 = .ok (.invokevirtual 82, 3) := by decide +kernel
theorem dX5_isAddRefused_27 : decode cX5_isAddRefused 27 = .ok (.goto 8, 3) := by decide +kernel
theorem dX5_isAddRefused_30 : decode cX5_isAddRefused 30 = .ok (.aload_n 0, 1) := by decide +kernel
theorem dX5_isAddRefused_31 : decode cX5_isAddRefused 31 = .ok (.iconst 2, 1) := by decide +kernel
theorem dX5_isAddRefused_32 : decode cX5_isAddRefused 32 = .ok (.invokevirtual 72, 3) := by decide +kernel
theorem dX5_isAddRefused_35 : decode cX5_isAddRefused 35 = .ok (.ireturn, 1) := by decide +kernel
theorem dX5_isNothingRefused_0 : decode cX5_isNothingRefused 0 = .ok (.iload_n 1, 1) := by decide +kernel
theorem dX5_isNothingRefused_1 : decode cX5_isNothingRefused 1 = .ok (.invokestatic 68, 3) := by decide +kernel
theorem dX5_isNothingRefused_4 : decode cX5_isNothingRefused 4 = .ok (.ifCond .ne 9, 3) := by decide +kernel
theorem dX5_isNothingRefused_7 : decode cX5_isNothingRefused 7 = .ok (.aload_n 0, 1) := by decide +kernel
theorem dX5_isNothingRefused_8 : decode cX5_isNothingRefused 8 = .ok (.iconst 1, 1) := by decide +kernel
theorem dX5_isNothingRefused_9 : decode cX5_isNothingRefused 9 = .ok (.invokevirtual 72, 3) := by decide +kernel
theorem dX5_isNothingRefused_12 : decode cX5_isNothingRefused 12 = .ok (.ireturn, 1) := by decide +kernel
theorem dX5_isNothingRefused_13 : decode cX5_isNothingRefused 13 = .ok (.iload_n 1, 1) := by decide +kernel
theorem dX5_isNothingRefused_14 : decode cX5_isNothingRefused 14 = .ok (.invokestatic 86, 3) := by decide +kernel
theorem dX5_isNothingRefused_17 : decode cX5_isNothingRefused 17 = .ok (.ifCond .eq 11, 3) := by decide +kernel
theorem dX5_isNothingRefused_20 : decode cX5_isNothingRefused 20 = .ok (.aload_n 0, 1) := by decide +kernel
theorem dX5_isNothingRefused_21 : decode cX5_isNothingRefused 21 = .ok (.iconst 1, 1) := by decide +kernel
theorem dX5_isNothingRefused_22 : decode cX5_isNothingRefused 22 = .ok (.invokevirtual 82, 3) := by decide +kernel
theorem dX5_isNothingRefused_25 : decode cX5_isNothingRefused 25 = .ok (.goto 8, 3) := by decide +kernel
theorem dX5_isNothingRefused_28 : decode cX5_isNothingRefused 28 = .ok (.aload_n 0, 1) := by decide +kernel
theorem dX5_isNothingRefused_29 : decode cX5_isNothingRefused 29 = .ok (.iconst 2, 1) := by decide +kernel
theorem dX5_isNothingRefused_30 : decode cX5_isNothingRefused 30 = .ok (.invokevirtual 72, 3) := by decide +kernel
theorem dX5_isNothingRefused_33 : decode cX5_isNothingRefused 33 = .ok (.ireturn, 1) := by decide +kernel
theorem dX5_mean_0 : decode cX5_mean 0 = .ok (.aload_n 0, 1) := by decide +kernel
theorem dX5_mean_1 : decode cX5_mean 1 = .ok (.iload_n 1, 1) := by decide +kernel
theorem dX5_mean_2 : decode cX5_mean 2 = .ok (.invokestatic 68, 3) := by decide +kernel
theorem dX5_mean_5 : decode cX5_mean 5 = .ok (.ifCond .eq 7, 3) := by decide +kernel
theorem dX5_mean_8 : decode cX5_mean 8 = .ok (.iconst 0, 1) := by decide +kernel
theorem dX5_mean_9 : decode cX5_mean 9 = .ok (.goto 4, 3) := by decide +kernel
theorem dX5_mean_12 : decode cX5_mean 12 = .ok (.iconst 1, 1) := by decide +kernel
theorem dX5_mean_13 : decode cX5_mean 13 = .ok (.putfield 39, 3) := by decide +kernel
theorem dX5_mean_16 : decode cX5_mean 16 = .ok (.aload_n 0, 1) := by decide +kernel
theorem dX5_mean_17 : decode cX5_mean 17 = .ok (.getfield 39, 3) := by decide +kernel
theorem dX5_mean_20 : decode cX5_mean 20 = .ok (.ifCond .ne 12, 3) := by decide +kernel
theorem dX5_mean_23 : decode cX5_mean 23 = .ok (.aload_n 0, 1) := by decide +kernel
theorem dX5_mean_24 : decode cX5_mean 24 = .ok (.getfield 16, 3) := by decide +kernel
theorem dX5_mean_27 : decode cX5_mean 27 = .ok (.iload_n 1, 1) := by decide +kernel
theorem dX5_mean_28 : decode cX5_mean 28 = .ok (.iaload, 1) := by decide +kernel
theorem dX5_mean_29 : decode cX5_mean 29 = .ok (.ifCond .ne 5, 3) := by decide +kernel
theorem dX5_mean_32 : decode cX5_mean 32 = .ok (.dconst 0, 1) := by decide +kernel
theorem dX5_mean_33 : decode cX5_mean 33 = .ok (.dreturn, 1) := by decide +kernel
theorem dX5_mean_34 : decode cX5_mean 34 = .ok (.lconst 0, 1) := by decide +kernel
theorem dX5_mean_35 : decode cX5_mean 35 = .ok (.lstore_n 2, 1) := by decide +kernel
theorem dX5_mean_36 : decode cX5_mean 36 = .ok (.iconst 0, 1) := by decide +kernel
theorem dX5_mean_37 : decode cX5_mean 37 = .ok (.istore 4, 2) := by decide +kernel
theorem dX5_mean_39 : decode cX5_mean 39 = .ok (.iload 4, 2) := by decide +kernel
theorem dX5_mean_41 : decode cX5_mean 41 = .ok (.aload_n 0, 1) := by decide +kernel
theorem dX5_mean_42 : decode cX5_mean 42 = .ok (.getfield 16, 3) := by decide +kernel
theorem dX5_mean_45 : decode cX5_mean 45 = .ok (.iload_n 1, 1) := by decide +kernel
theorem dX5_mean_46 : decode cX5_mean 46 = .ok (.iaload, 1) := by decide +kernel
theorem dX5_mean_47 : decode cX5_mean 47 = .ok (.if_icmp .ge 26, 3) := by decide +kernel
theorem dX5_mean_50 : decode cX5_mean 50 = .ok (.lload_n 2, 1) := by decide +kernel
theorem dX5_mean_51 : decode cX5_mean 51 = .ok (.aload_n 0, 1) := by decide +kernel
theorem dX5_mean_52 : decode cX5_mean 52 = .ok (.getfield 13, 3) := by decide +kernel
theorem dX5_mean_55 : decode cX5_mean 55 = .ok (.sipush 201, 3) := by decide +kernel
theorem dX5_mean_58 : decode cX5_mean 58 = .ok (.iload_n 1, 1) := by decide +kernel
theorem dX5_mean_59 : decode cX5_mean 59 = .ok (.imul, 1) := by decide +kernel
theorem dX5_mean_60 : decode cX5_mean 60 = .ok (.iload 4, 2) := by decide +kernel
theorem dX5_mean_62 : decode cX5_mean 62 = .ok (.iadd, 1) := by decide +kernel
theorem dX5_mean_63 : decode cX5_mean 63 = .ok (.iaload, 1) := by decide +kernel
theorem dX5_mean_64 : decode cX5_mean 64 = .ok (.i2l, 1) := by decide +kernel
theorem dX5_mean_65 : decode cX5_mean 65 = .ok (.ladd, 1) := by decide +kernel
theorem dX5_mean_66 : decode cX5_mean 66 = .ok (.lstore_n 2, 1) := by decide +kernel
theorem dX5_mean_67 : decode cX5_mean 67 = .ok (.iinc 4 1, 3) := by decide +kernel
theorem dX5_mean_70 : decode cX5_mean 70 = .ok (.goto (-31), 3) := by decide +kernel
theorem dX5_mean_73 : decode cX5_mean 73 = .ok (.lload_n 2, 1) := by decide +kernel
theorem dX5_mean_74 : decode cX5_mean 74 = .ok (.l2d, 1) := by decide +kernel
theorem dX5_mean_75 : decode cX5_mean 75 = .ok (.aload_n 0, 1) := by decide +kernel
theorem dX5_mean_76 : decode cX5_mean 76 = .ok (.getfield 16, 3) := by decide +kernel
theorem dX5_mean_79 : decode cX5_mean 79 = .ok (.iload_n 1, 1) := by decide +kernel
theorem dX5_mean_80 : decode cX5_mean 80 = .ok (.iaload, 1) := by decide +kernel
theorem dX5_mean_81 : decode cX5_mean 81 = .ok (.i2d, 1) := by decide +kernel
theorem dX5_mean_82 : decode cX5_mean 82 = .ok (.ddiv, 1) := by decide +kernel
theorem dX5_mean_83 : decode cX5_mean 83 = .ok (.dreturn, 1) := by decide +kernel
theorem dX5_fullness_0 : decode cX5_fullness 0 = .ok (.aload_n 0, 1) := by decide +kernel
theorem dX5_fullness_1 : decode cX5_fullness 1 = .ok (.iconst 0, 1) := by decide +kernel
theorem dX5_fullness_2 : decode cX5_fullness 2 = .ok (.putfield 39, 3) := by decide +kernel
theorem dX5_fullness_5 : decode cX5_fullness 5 = .ok (.aload_n 0, 1) := by decide +kernel
theorem dX5_fullness_6 : decode cX5_fullness 6 = .ok (.getfield 16, 3) := by decide +kernel
theorem dX5_fullness_9 : decode cX5_fullness 9 = .ok (.iconst 2, 1) := by decide +kernel
theorem dX5_fullness_10 : decode cX5_fullness 10 = .ok (.iaload, 1) := by decide +kernel
theorem dX5_fullness_11 : decode cX5_fullness 11 = .ok (.i2f, 1) := by decide +kernel
theorem dX5_fullness_12 : decode cX5_fullness 12 = .ok (.aload_n 0, 1) := by decide +kernel
theorem dX5_fullness_13 : decode cX5_fullness 13 = .ok (.getfield 19, 3) := by decide +kernel
theorem dX5_fullness_16 : decode cX5_fullness 16 = .ok (.i2f, 1) := by decide +kernel
theorem dX5_fullness_17 : decode cX5_fullness 17 = .ok (.fdiv, 1) := by decide +kernel
theorem dX5_fullness_18 : decode cX5_fullness 18 = .ok (.freturn, 1) := by decide +kernel
theorem dX5_isTrue_0 : decode cX5_isTrue 0 = .ok (.iconst 0, 1) := by decide +kernel
theorem dX5_isTrue_1 : decode cX5_isTrue 1 = .ok (.istore_n 2, 1) := by decide +kernel
theorem dX5_isTrue_2 : decode cX5_isTrue 2 = .ok (.aload_n 0, 1) := by decide +kernel
theorem dX5_isTrue_3 : decode cX5_isTrue 3 = .ok (.getfield 16, 3) := by decide +kernel
theorem dX5_isTrue_6 : decode cX5_isTrue 6 = .ok (.iload_n 1, 1) := by decide +kernel
theorem dX5_isTrue_7 : decode cX5_isTrue 7 = .ok (.iaload, 1) := by decide +kernel
theorem dX5_isTrue_8 : decode cX5_isTrue 8 = .ok (.iload_n 1, 1) := by decide +kernel
theorem dX5_isTrue_9 : decode cX5_isTrue 9 = .ok (.iconst 2, 1) := by decide +kernel
theorem dX5_isTrue_10 : decode cX5_isTrue 10 = .ok (.if_icmp .ne 10, 3) := by decide +kernel
theorem dX5_isTrue_13 : decode cX5_isTrue 13 = .ok (.aload_n 0, 1) := by decide +kernel
theorem dX5_isTrue_14 : decode cX5_isTrue 14 = .ok (.getfield 19, 3) := by decide +kernel
theorem dX5_isTrue_17 : decode cX5_isTrue 17 = .ok (.goto 6, 3) := by decide +kernel
theorem dX5_isTrue_20 : decode cX5_isTrue 20 = .ok (.sipush 200, 3) := by decide +kernel
theorem dX5_isTrue_23 : decode cX5_isTrue 23 = .ok (.if_icmp .gt 7, 3) := by decide +kernel
theorem dX5_isTrue_26 : decode cX5_isTrue 26 = .ok (.iconst 1, 1) := by decide +kernel
theorem dX5_isTrue_27 : decode cX5_isTrue 27 = .ok (.goto 4, 3) := by decide +kernel
theorem dX5_isTrue_30 : decode cX5_isTrue 30 = .ok (.iconst 0, 1) := by decide +kernel
theorem dX5_isTrue_31 : decode cX5_isTrue 31 = .ok (.istore_n 3, 1) := by decide +kernel
theorem dX5_isTrue_32 : decode cX5_isTrue 32 = .ok (.aload_n 0, 1) := by decide +kernel
theorem dX5_isTrue_33 : decode cX5_isTrue 33 = .ok (.getfield 16, 3) := by decide +kernel
theorem dX5_isTrue_36 : decode cX5_isTrue 36 = .ok (.iload_n 1, 1) := by decide +kernel
theorem dX5_isTrue_37 : decode cX5_isTrue 37 = .ok (.iaload, 1) := by decide +kernel
theorem dX5_isTrue_38 : decode cX5_isTrue 38 = .ok (.iconst 1, 1) := by decide +kernel
theorem dX5_isTrue_39 : decode cX5_isTrue 39 = .ok (.isub, 1) := by decide +kernel
theorem dX5_isTrue_40 : decode cX5_isTrue 40 = .ok (.istore 4, 2) := by decide +kernel
theorem dX5_isTrue_42 : decode cX5_isTrue 42 = .ok (.iload 4, 2) := by decide +kernel
theorem dX5_isTrue_44 : decode cX5_isTrue 44 = .ok (.ifCond .lt 65, 3) := by decide +kernel
theorem dX5_isTrue_47 : decode cX5_isTrue 47 = .ok (.iload_n 3, 1) := by decide +kernel
theorem dX5_isTrue_48 : decode cX5_isTrue 48 = .ok (.ifCond .eq 61, 3) := by decide +kernel
theorem dX5_isTrue_51 : decode cX5_isTrue 51 = .ok (.aload_n 0, 1) := by decide +kernel
theorem dX5_isTrue_52 : decode cX5_isTrue 52 = .ok (.getfield 7, 3) := by decide +kernel
theorem dX5_isTrue_55 : decode cX5_isTrue 55 = .ok (.sipush 201, 3) := by decide +kernel
theorem dX5_isTrue_58 : decode cX5_isTrue 58 = .ok (.iload_n 1, 1) := by decide +kernel
theorem dX5_isTrue_59 : decode cX5_isTrue 59 = .ok (.imul, 1) := by decide +kernel
theorem dX5_isTrue_60 : decode cX5_isTrue 60 = .ok (.iload 4, 2) := by decide +kernel
theorem dX5_isTrue_62 : decode cX5_isTrue 62 = .ok (.iadd, 1) := by decide +kernel
theorem dX5_isTrue_63 : decode cX5_isTrue 63 = .ok (.iaload, 1) := by decide +kernel
theorem dX5_isTrue_64 : decode cX5_isTrue 64 = .ok (.istore 5, 2) := by decide +kernel
theorem dX5_isTrue_66 : decode cX5_isTrue 66 = .ok (.aload_n 0, 1) := by decide +kernel
theorem dX5_isTrue_67 : decode cX5_isTrue 67 = .ok (.iload_n 1, 1) := by decide +kernel
theorem dX5_isTrue_68 : decode cX5_isTrue 68 = .ok (.iload 5, 2) := by decide +kernel
theorem dX5_isTrue_70 : decode cX5_isTrue 70 = .ok (.invokevirtual 50, 3) := by decide +kernel
theorem dX5_isTrue_73 : decode cX5_isTrue 73 = .ok (.iload 4, 2) := by decide +kernel
theorem dX5_isTrue_75 : decode cX5_isTrue 75 = .ok (.if_icmp .ne 7, 3) := by decide +kernel
theorem dX5_isTrue_78 : decode cX5_isTrue 78 = .ok (.iconst 1, 1) := by decide +kernel
theorem dX5_isTrue_79 : decode cX5_isTrue 79 = .ok (.goto 4, 3) := by decide +kernel
theorem dX5_isTrue_82 : decode cX5_isTrue 82 = .ok (.iconst 0, 1) := by decide +kernel
theorem dX5_isTrue_83 : decode cX5_isTrue 83 = .ok (.istore_n 3, 1) := by decide +kernel
theorem dX5_isTrue_84 : decode cX5_isTrue 84 = .ok (.iload_n 2, 1) := by decide +kernel
theorem dX5_isTrue_85 : decode cX5_isTrue 85 = .ok (.iload 5, 2) := by decide +kernel
theorem dX5_isTrue_87 : decode cX5_isTrue 87 = .ok (.aload_n 0, 1) := by decide +kernel
theorem dX5_isTrue_88 : decode cX5_isTrue 88 = .ok (.getfield 13, 3) := by decide +kernel
theorem dX5_isTrue_91 : decode cX5_isTrue 91 = .ok (.sipush 201, 3) := by decide +kernel
theorem dX5_isTrue_94 : decode cX5_isTrue 94 = .ok (.iload_n 1, 1) := by decide +kernel
theorem dX5_isTrue_95 : decode cX5_isTrue 95 = .ok (.imul, 1) := by decide +kernel
theorem dX5_isTrue_96 : decode cX5_isTrue 96 = .ok (.iload 4, 2) := by decide +kernel
theorem dX5_isTrue_98 : decode cX5_isTrue 98 = .ok (.iadd, 1) := by decide +kernel
theorem dX5_isTrue_99 : decode cX5_isTrue 99 = .ok (.iaload, 1) := by decide +kernel
theorem dX5_isTrue_100 : decode cX5_isTrue 100 = .ok (.ixor, 1) := by decide +kernel
theorem dX5_isTrue_101 : decode cX5_isTrue 101 = .ok (.iadd, 1) := by decide +kernel
theorem dX5_isTrue_102 : decode cX5_isTrue 102 = .ok (.istore_n 2, 1) := by decide +kernel
theorem dX5_isTrue_103 : decode cX5_isTrue 103 = .ok (.iinc 4 (-1), 3) := by decide +kernel
theorem dX5_isTrue_106 : decode cX5_isTrue 106 = .ok (.goto (-64), 3) := by decide +kernel
theorem dX5_isTrue_109 : decode cX5_isTrue 109 = .ok (.iconst 0, 1) := by decide +kernel
theorem dX5_isTrue_110 : decode cX5_isTrue 110 = .ok (.istore 4, 2) := by decide +kernel
theorem dX5_isTrue_112 : decode cX5_isTrue 112 = .ok (.iconst 0, 1) := by decide +kernel
theorem dX5_isTrue_113 : decode cX5_isTrue 113 = .ok (.istore 5, 2) := by decide +kernel
theorem dX5_isTrue_115 : decode cX5_isTrue 115 = .ok (.iload 5, 2) := by decide +kernel
theorem dX5_isTrue_117 : decode cX5_isTrue 117 = .ok (.aload_n 0, 1) := by decide +kernel
theorem dX5_isTrue_118 : decode cX5_isTrue 118 = .ok (.getfield 16, 3) := by decide +kernel
theorem dX5_isTrue_121 : decode cX5_isTrue 121 = .ok (.iload_n 1, 1) := by decide +kernel
theorem dX5_isTrue_122 : decode cX5_isTrue 122 = .ok (.iaload, 1) := by decide +kernel
theorem dX5_isTrue_123 : decode cX5_isTrue 123 = .ok (.if_icmp .ge 41, 3) := by decide +kernel
theorem dX5_isTrue_126 : decode cX5_isTrue 126 = .ok (.iload 4, 2) := by decide +kernel
theorem dX5_isTrue_128 : decode cX5_isTrue 128 = .ok (.aload_n 0, 1) := by decide +kernel
theorem dX5_isTrue_129 : decode cX5_isTrue 129 = .ok (.getfield 7, 3) := by decide +kernel
theorem dX5_isTrue_132 : decode cX5_isTrue 132 = .ok (.sipush 201, 3) := by decide +kernel
theorem dX5_isTrue_135 : decode cX5_isTrue 135 = .ok (.iload_n 1, 1) := by decide +kernel
theorem dX5_isTrue_136 : decode cX5_isTrue 136 = .ok (.imul, 1) := by decide +kernel
theorem dX5_isTrue_137 : decode cX5_isTrue 137 = .ok (.iload 5, 2) := by decide +kernel
theorem dX5_isTrue_139 : decode cX5_isTrue 139 = .ok (.iadd, 1) := by decide +kernel
theorem dX5_isTrue_140 : decode cX5_isTrue 140 = .ok (.iaload, 1) := by decide +kernel
theorem dX5_isTrue_141 : decode cX5_isTrue 141 = .ok (.aload_n 0, 1) := by decide +kernel
theorem dX5_isTrue_142 : decode cX5_isTrue 142 = .ok (.getfield 13, 3) := by decide +kernel
theorem dX5_isTrue_145 : decode cX5_isTrue 145 = .ok (.sipush 201, 3) := by decide +kernel
theorem dX5_isTrue_148 : decode cX5_isTrue 148 = .ok (.iload_n 1, 1) := by decide +kernel
theorem dX5_isTrue_149 : decode cX5_isTrue 149 = .ok (.imul, 1) := by decide +kernel
theorem dX5_isTrue_150 : decode cX5_isTrue 150 = .ok (.iload 5, 2) := by decide +kernel
theorem dX5_isTrue_152 : decode cX5_isTrue 152 = .ok (.iadd, 1) := by decide +kernel
theorem dX5_isTrue_153 : decode cX5_isTrue 153 = .ok (.iaload, 1) := by decide +kernel
theorem dX5_isTrue_154 : decode cX5_isTrue 154 = .ok (.ixor, 1) := by decide +kernel
