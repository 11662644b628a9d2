theorem dX5_canChange_13 : decode cX5_canChange 13 = .ok (.iaload, 1) := by decide +kernel
theorem dX5_canChange_14 : decode cX5_canChange 14 = .ok (.iconst 3, 1) := by decide +kernel
theorem dX5_canChange_15 : decode cX5_canChange 15 = .ok (.if_icmp .eq 16, 3) := by decide +kernel
theorem dX5_canChange_18 : decode cX5_canChange 18 = .ok (.aload_n 0, 1) := by decide +kernel
theorem dX5_canChange_19 : decode cX5_canChange 19 = .ok (.getfield 32, 3) := by decide +kernel
theorem dX5_canChange_22 : decode cX5_canChange 22 = .ok (.iload_n 1, 1) := by decide +kernel
theorem dX5_canChange_23 : decode cX5_canChange 23 = .ok (.baload, 1) := by decide +kernel
theorem dX5_canChange_24 : decode cX5_canChange 24 = .ok (.ifCond .eq 7, 3) := by decide +kernel
theorem dX5_canChange_27 : decode cX5_canChange 27 = .ok (.iconst 1, 1) := by decide +kernel
theorem dX5_canChange_28 : decode cX5_canChange 28 = .ok (.goto 4, 3) := by decide +kernel
theorem dX5_canChange_31 : decode cX5_canChange 31 = .ok (.iconst 0, 1) := by decide +kernel
theorem dX5_canChange_32 : decode cX5_canChange 32 = .ok (.ireturn, 1) := by decide +kernel
theorem dX5_removeAt_0 : decode cX5_removeAt 0 = .ok (.iload_n 1, 1) := by decide +kernel
theorem dX5_removeAt_1 : decode cX5_removeAt 1 = .ok (.invokestatic 92, 3) := by decide +kernel
theorem dX5_removeAt_4 : decode cX5_removeAt 4 = .ok (.ifCond .ne 9, 3) := by decide +kernel
theorem dX5_removeAt_7 : decode cX5_removeAt 7 = .ok (.aload_n 0, 1) := by decide +kernel
theorem dX5_removeAt_8 : decode cX5_removeAt 8 = .ok (.iconst 1, 1) := by decide +kernel
theorem dX5_removeAt_9 : decode cX5_removeAt 9 = .ok (.invokevirtual 58, 3) := by decide +kernel
theorem dX5_removeAt_12 : decode cX5_removeAt 12 = .ok (.ireturn, 1) := by decide +kernel
theorem dX5_removeAt_13 : decode cX5_removeAt 13 = .ok (.aload_n 0, 1) := by decide +kernel
theorem dX5_removeAt_14 : decode cX5_removeAt 14 = .ok (.iload_n 1, 1) := by decide +kernel
theorem dX5_removeAt_15 : decode cX5_removeAt 15 = .ok (.invokevirtual 98, 3) := by decide +kernel
theorem dX5_removeAt_18 : decode cX5_removeAt 18 = .ok (.ifCond .ne 9, 3) := by decide +kernel
theorem dX5_removeAt_21 : decode cX5_removeAt 21 = .ok (.aload_n 0, 1) := by decide +kernel
theorem dX5_removeAt_22 : decode cX5_removeAt 22 = .ok (.iconst 2, 1) := by decide +kernel
theorem dX5_removeAt_23 : decode cX5_removeAt 23 = .ok (.invokevirtual 58, 3) := by decide +kernel
theorem dX5_removeAt_26 : decode cX5_removeAt 26 = .ok (.ireturn, 1) := by decide +kernel
theorem dX5_removeAt_27 : decode cX5_removeAt 27 = .ok (.aload_n 0, 1) := by decide +kernel
theorem dX5_removeAt_28 : decode cX5_removeAt 28 = .ok (.getfield 23, 3) := by decide +kernel
theorem dX5_removeAt_31 : decode cX5_removeAt 31 = .ok (.iload_n 1, 1) := by decide +kernel
theorem dX5_removeAt_32 : decode cX5_removeAt 32 = .ok (.iaload, 1) := by decide +kernel
theorem dX5_removeAt_33 : decode cX5_removeAt 33 = .ok (.istore_n 2, 1) := by decide +kernel
theorem dX5_removeAt_34 : decode cX5_removeAt 34 = .ok (.aload_n 0, 1) := by decide +kernel
theorem dX5_removeAt_35 : decode cX5_removeAt 35 = .ok (.getfield 29, 3) := by decide +kernel
theorem dX5_removeAt_38 : decode cX5_removeAt 38 = .ok (.iload_n 1, 1) := by decide +kernel
theorem dX5_removeAt_39 : decode cX5_removeAt 39 = .ok (.dup2, 1) := by decide +kernel
theorem dX5_removeAt_40 : decode cX5_removeAt 40 = .ok (.iaload, 1) := by decide +kernel
theorem dX5_removeAt_41 : decode cX5_removeAt 41 = .ok (.iconst 1, 1) := by decide +kernel
theorem dX5_removeAt_42 : decode cX5_removeAt 42 = .ok (.isub, 1) := by decide +kernel
theorem dX5_removeAt_43 : decode cX5_removeAt 43 = .ok (.iastore, 1) := by decide +kernel
theorem dX5_removeAt_44 : decode cX5_removeAt 44 = .ok (.aload_n 0, 1) := by decide +kernel
theorem dX5_removeAt_45 : decode cX5_removeAt 45 = .ok (.getfield 32, 3) := by decide +kernel
theorem dX5_removeAt_48 : decode cX5_removeAt 48 = .ok (.iload_n 1, 1) := by decide +kernel
theorem dX5_removeAt_49 : decode cX5_removeAt 49 = .ok (.iconst 0, 1) := by decide +kernel
theorem dX5_removeAt_50 : decode cX5_removeAt 50 = .ok (.bastore, 1) := by decide +kernel
theorem dX5_removeAt_51 : decode cX5_removeAt 51 = .ok (.aload_n 0, 1) := by decide +kernel
theorem dX5_removeAt_52 : decode cX5_removeAt 52 = .ok (.iload_n 2, 1) := by decide +kernel
theorem dX5_removeAt_53 : decode cX5_removeAt 53 = .ok (.aload_n 0, 1) := by decide +kernel
theorem dX5_removeAt_54 : decode cX5_removeAt 54 = .ok (.getfield 29, 3) := by decide +kernel
theorem dX5_removeAt_57 : decode cX5_removeAt 57 = .ok (.iload_n 1, 1) := by decide +kernel
theorem dX5_removeAt_58 : decode cX5_removeAt 58 = .ok (.iaload, 1) := by decide +kernel
theorem dX5_removeAt_59 : decode cX5_removeAt 59 = .ok (.invokevirtual 46, 3) := by decide +kernel
theorem dX5_removeAt_62 : decode cX5_removeAt 62 = .ok (.aload_n 0, 1) := by decide +kernel
theorem dX5_removeAt_63 : decode cX5_removeAt 63 = .ok (.iload_n 2, 1) := by decide +kernel
theorem dX5_removeAt_64 : decode cX5_removeAt 64 = .ok (.iload_n 1, 1) := by decide +kernel
theorem dX5_removeAt_65 : decode cX5_removeAt 65 = .ok (.invokevirtual 62, 3) := by decide +kernel
theorem dX5_removeAt_68 : decode cX5_removeAt 68 = .ok (.aload_n 0, 1) := by decide +kernel
theorem dX5_removeAt_69 : decode cX5_removeAt 69 = .ok (.aload_n 0, 1) := by decide +kernel
theorem dX5_removeAt_70 : decode cX5_removeAt 70 = .ok (.getfield 16, 3) := by decide +kernel
theorem dX5_removeAt_73 : decode cX5_removeAt 73 = .ok (.iload_n 2, 1) := by decide +kernel
theorem dX5_removeAt_74 : decode cX5_removeAt 74 = .ok (.iaload, 1) := by decide +kernel
theorem dX5_removeAt_75 : decode cX5_removeAt 75 = .ok (.invokevirtual 65, 3) := by decide +kernel
theorem dX5_removeAt_78 : decode cX5_removeAt 78 = .ok (.ireturn, 1) := by decide +kernel
theorem dX5_setAt_0 : decode cX5_setAt 0 = .ok (.iload_n 1, 1) := by decide +kernel
theorem dX5_setAt_1 : decode cX5_setAt 1 = .ok (.invokestatic 92, 3) := by decide +kernel
theorem dX5_setAt_4 : decode cX5_setAt 4 = .ok (.ifCond .ne 9, 3) := by decide +kernel
theorem dX5_setAt_7 : decode cX5_setAt 7 = .ok (.aload_n 0, 1) := by decide +kernel
theorem dX5_setAt_8 : decode cX5_setAt 8 = .ok (.iconst 1, 1) := by decide +kernel
theorem dX5_setAt_9 : decode cX5_setAt 9 = .ok (.invokevirtual 58, 3) := by decide +kernel
theorem dX5_setAt_12 : decode cX5_setAt 12 = .ok (.ireturn, 1) := by decide +kernel
theorem dX5_setAt_13 : decode cX5_setAt 13 = .ok (.aload_n 0, 1) := by decide +kernel
theorem dX5_setAt_14 : decode cX5_setAt 14 = .ok (.iload_n 1, 1) := by decide +kernel
theorem dX5_setAt_15 : decode cX5_setAt 15 = .ok (.invokevirtual 95, 3) := by decide +kernel
theorem dX5_setAt_18 : decode cX5_setAt 18 = .ok (.ifCond .eq 19, 3) := by decide +kernel
theorem dX5_setAt_21 : decode cX5_setAt 21 = .ok (.aload_n 0, 1) := by decide +kernel
theorem dX5_setAt_22 : decode cX5_setAt 22 = .ok (.getfield 26, 3) := by decide +kernel
theorem dX5_setAt_25 : decode cX5_setAt 25 = .ok (.iload_n 1, 1) := by decide +kernel
theorem dX5_setAt_26 : decode cX5_setAt 26 = .ok (.iaload, 1) := by decide +kernel
theorem dX5_setAt_27 : decode cX5_setAt 27 = .ok (.iconst 2, 1) := by decide +kernel
theorem dX5_setAt_28 : decode cX5_setAt 28 = .ok (.if_icmp .eq 9, 3) := by decide +kernel
theorem dX5_setAt_31 : decode cX5_setAt 31 = .ok (.aload_n 0, 1) := by decide +kernel
theorem dX5_setAt_32 : decode cX5_setAt 32 = .ok (.iconst 2, 1) := by decide +kernel
theorem dX5_setAt_33 : decode cX5_setAt 33 = .ok (.invokevirtual 58, 3) := by decide +kernel
theorem dX5_setAt_36 : decode cX5_setAt 36 = .ok (.ireturn, 1) := by decide +kernel
theorem dX5_setAt_37 : decode cX5_setAt 37 = .ok (.aload_n 0, 1) := by decide +kernel
theorem dX5_setAt_38 : decode cX5_setAt 38 = .ok (.iload_n 1, 1) := by decide +kernel
theorem dX5_setAt_39 : decode cX5_setAt 39 = .ok (.invokevirtual 98, 3) := by decide +kernel
theorem dX5_setAt_42 : decode cX5_setAt 42 = .ok (.ifCond .ne 9, 3) := by decide +kernel
theorem dX5_setAt_45 : decode cX5_setAt 45 = .ok (.aload_n 0, 1) := by decide +kernel
theorem dX5_setAt_46 : decode cX5_setAt 46 = .ok (.iconst 3, 1) := by decide +kernel
theorem dX5_setAt_47 : decode cX5_setAt 47 = .ok (.invokevirtual 58, 3) := by decide +kernel
theorem dX5_setAt_50 : decode cX5_setAt 50 = .ok (.ireturn, 1) := by decide +kernel
theorem dX5_setAt_51 : decode cX5_setAt 51 = .ok (.aload_n 0, 1) := by decide +kernel
theorem dX5_setAt_52 : decode cX5_setAt 52 = .ok (.getfield 23, 3) := by decide +kernel
theorem dX5_setAt_55 : decode cX5_setAt 55 = .ok (.iload_n 1, 1) := by decide +kernel
theorem dX5_setAt_56 : decode cX5_setAt 56 = .ok (.iaload, 1) := by decide +kernel
theorem dX5_setAt_57 : decode cX5_setAt 57 = .ok (.istore_n 3, 1) := by decide +kernel
theorem dX5_setAt_58 : decode cX5_setAt 58 = .ok (.sipush 201, 3) := by decide +kernel
theorem dX5_setAt_61 : decode cX5_setAt 61 = .ok (.iload_n 3, 1) := by decide +kernel
theorem dX5_setAt_62 : decode cX5_setAt 62 = .ok (.imul, 1) := by decide +kernel
theorem dX5_setAt_63 : decode cX5_setAt 63 = .ok (.aload_n 0, 1) := by decide +kernel
theorem dX5_setAt_64 : decode cX5_setAt 64 = .ok (.getfield 29, 3) := by decide +kernel
theorem dX5_setAt_67 : decode cX5_setAt 67 = .ok (.iload_n 1, 1) := by decide +kernel
theorem dX5_setAt_68 : decode cX5_setAt 68 = .ok (.iaload, 1) := by decide +kernel
theorem dX5_setAt_69 : decode cX5_setAt 69 = .ok (.iadd, 1) := by decide +kernel
theorem dX5_setAt_70 : decode cX5_setAt 70 = .ok (.iconst 1, 1) := by decide +kernel
theorem dX5_setAt_71 : decode cX5_setAt 71 = .ok (.isub, 1) := by decide +kernel
theorem dX5_setAt_72 : decode cX5_setAt 72 = .ok (.istore 4, 2) := by decide +kernel
theorem dX5_setAt_74 : decode cX5_setAt 74 = .ok (.aload_n 0, 1) := by decide +kernel
theorem dX5_setAt_75 : decode cX5_setAt 75 = .ok (.getfield 13, 3) := by decide +kernel
theorem dX5_setAt_78 : decode cX5_setAt 78 = .ok (.iload 4, 2) := by decide +kernel
theorem dX5_setAt_80 : decode cX5_setAt 80 = .ok (.iaload, 1) := by decide +kernel
theorem dX5_setAt_81 : decode cX5_setAt 81 = .ok (.istore 5, 2) := by decide +kernel
theorem dX5_setAt_83 : decode cX5_setAt 83 = .ok (.aload_n 0, 1) := by decide +kernel
theorem dX5_setAt_84 : decode cX5_setAt 84 = .ok (.getfield 13, 3) := by decide +kernel
theorem dX5_setAt_87 : decode cX5_setAt 87 = .ok (.iload 4, 2) := by decide +kernel
theorem dX5_setAt_89 : decode cX5_setAt 89 = .ok (.iload_n 2, 1) := by decide +kernel
theorem dX5_setAt_90 : decode cX5_setAt 90 = .ok (.iastore, 1) := by decide +kernel
theorem dX5_setAt_91 : decode cX5_setAt 91 = .ok (.aload_n 0, 1) := by decide +kernel
theorem dX5_setAt_92 : decode cX5_setAt 92 = .ok (.iload_n 3, 1) := by decide +kernel
theorem dX5_setAt_93 : decode cX5_setAt 93 = .ok (.iload_n 1, 1) := by decide +kernel
theorem dX5_setAt_94 : decode cX5_setAt 94 = .ok (.invokevirtual 62, 3) := by decide +kernel
theorem dX5_setAt_97 : decode cX5_setAt 97 = .ok (.aload_n 0, 1) := by decide +kernel
theorem dX5_setAt_98 : decode cX5_setAt 98 = .ok (.iload 5, 2) := by decide +kernel
theorem dX5_setAt_100 : decode cX5_setAt 100 = .ok (.invokevirtual 65, 3) := by decide +kernel
theorem dX5_setAt_103 : decode cX5_setAt 103 = .ok (.ireturn, 1) := by decide +kernel
theorem dX5_bookOf_0 : decode cX5_bookOf 0 = .ok (.iload_n 1, 1) := by decide +kernel
theorem dX5_bookOf_1 : decode cX5_bookOf 1 = .ok (.invokestatic 92, 3) := by decide +kernel
theorem dX5_bookOf_4 : decode cX5_bookOf 4 = .ok (.ifCond .eq 16, 3) := by decide +kernel
theorem dX5_bookOf_7 : decode cX5_bookOf 7 = .ok (.aload_n 0, 1) := by decide +kernel
theorem dX5_bookOf_8 : decode cX5_bookOf 8 = .ok (.aload_n 0, 1) := by decide +kernel
theorem dX5_bookOf_9 : decode cX5_bookOf 9 = .ok (.getfield 23, 3) := by decide +kernel
theorem dX5_bookOf_12 : decode cX5_bookOf 12 = .ok (.iload_n 1, 1) := by decide +kernel
theorem dX5_bookOf_13 : decode cX5_bookOf 13 = .ok (.iaload, 1) := by decide +kernel
theorem dX5_bookOf_14 : decode cX5_bookOf 14 = .ok (.invokevirtual 65, 3) := by decide +kernel
theorem dX5_bookOf_17 : decode cX5_bookOf 17 = .ok (.goto 8, 3) := by decide +kernel
theorem dX5_bookOf_20 : decode cX5_bookOf 20 = .ok (.aload_n 0, 1) := by decide +kernel
theorem dX5_bookOf_21 : decode cX5_bookOf 21 = .ok (.iconst 1, 1) := by decide +kernel
theorem dX5_bookOf_22 : decode cX5_bookOf 22 = .ok (.invokevirtual 58, 3) := by decide +kernel
theorem dX5_bookOf_25 : decode cX5_bookOf 25 = .ok (.ireturn, 1) := by decide +kernel
theorem dX5_isPlace_0 : decode cX5_isPlace 0 = .ok (.iload_n 1, 1) := by decide +kernel
theorem dX5_isPlace_1 : decode cX5_isPlace 1 = .ok (.invokestatic 68, 3) := by decide +kernel
theorem dX5_isPlace_4 : decode cX5_isPlace 4 = .ok (.ifCond .eq 23, 3) := by decide +kernel
theorem dX5_isPlace_7 : decode cX5_isPlace 7 = .ok (.iload_n 2, 1) := by decide +kernel
theorem dX5_isPlace_8 : decode cX5_isPlace 8 = .ok (.iconst 0, 1) := by decide +kernel
theorem dX5_isPlace_9 : decode cX5_isPlace 9 = .ok (.aload_n 0, 1) := by decide +kernel
theorem dX5_isPlace_10 : decode cX5_isPlace 10 = .ok (.getfield 16, 3) := by decide +kernel
theorem dX5_isPlace_13 : decode cX5_isPlace 13 = .ok (.iload_n 1, 1) := by decide +kernel
theorem dX5_isPlace_14 : decode cX5_isPlace 14 = .ok (.iaload, 1) := by decide +kernel
theorem dX5_isPlace_15 : decode cX5_isPlace 15 = .ok (.iconst 1, 1) := by decide +kernel
theorem dX5_isPlace_16 : decode cX5_isPlace 16 = .ok (.isub, 1) := by decide +kernel
theorem dX5_isPlace_17 : decode cX5_isPlace 17 = .ok (.invokestatic 42, 3) := by decide +kernel
theorem dX5_isPlace_20 : decode cX5_isPlace 20 = .ok (.ifCond .eq 7, 3) := by decide +kernel
theorem dX5_isPlace_23 : decode cX5_isPlace 23 = .ok (.iconst 1, 1) := by decide +kernel
theorem dX5_isPlace_24 : decode cX5_isPlace 24 = .ok (.goto 4, 3) := by decide +kernel
theorem dX5_isPlace_27 : decode cX5_isPlace 27 = .ok (.iconst 0, 1) := by decide +kernel
theorem dX5_isPlace_28 : decode cX5_isPlace 28 = .ok (.ireturn, 1) := by decide +kernel
theorem dX5_size_0 : decode cX5_size 0 = .ok (.iload_n 1, 1) := by decide +kernel
theorem dX5_size_1 : decode cX5_size 1 = .ok (.invokestatic 68, 3) := by decide +kernel
theorem dX5_size_4 : decode cX5_size 4 = .ok (.ifCond .eq 16, 3) := by decide +kernel
theorem dX5_size_7 : decode cX5_size 7 = .ok (.aload_n 0, 1) := by decide +kernel
theorem dX5_size_8 : decode cX5_size 8 = .ok (.aload_n 0, 1) := by decide +kernel
theorem dX5_size_9 : decode cX5_size 9 = .ok (.getfield 16, 3) := by decide +kernel
theorem dX5_size_12 : decode cX5_size 12 = .ok (.iload_n 1, 1) := by decide +kernel
theorem dX5_size_13 : decode cX5_size 13 = .ok (.iaload, 1) := by decide +kernel
theorem dX5_size_14 : decode cX5_size 14 = .ok (.invokevirtual 65, 3) := by decide +kernel
theorem dX5_size_17 : decode cX5_size 17 = .ok (.goto 8, 3) := by decide +kernel
theorem dX5_size_20 : decode cX5_size 20 = .ok (.aload_n 0, 1) := by decide +kernel
theorem dX5_size_21 : decode cX5_size 21 = .ok (.iconst 1, 1) := by decide +kernel
theorem dX5_size_22 : decode cX5_size 22 = .ok (.invokevirtual 58, 3) := by decide +kernel
theorem dX5_size_25 : decode cX5_size 25 = .ok (.ireturn, 1) := by decide +kernel
theorem dX5_hasKey_0 : decode cX5_hasKey 0 = .ok (.iload_n 1, 1) := by decide +kernel
theorem dX5_hasKey_1 : decode cX5_hasKey 1 = .ok (.invokestatic 68, 3) := by decide +kernel
theorem dX5_hasKey_4 : decode cX5_hasKey 4 = .ok (.ifCond .eq 25, 3) := by decide +kernel
theorem dX5_hasKey_7 : decode cX5_hasKey 7 = .ok (.aload_n 0, 1) := by decide +kernel
theorem dX5_hasKey_8 : decode cX5_hasKey 8 = .ok (.aload_n 0, 1) := by decide +kernel
theorem dX5_hasKey_9 : decode cX5_hasKey 9 = .ok (.iload_n 1, 1) := by decide +kernel
theorem dX5_hasKey_10 : decode cX5_hasKey 10 = .ok (.iload_n 2, 1) := by decide +kernel
theorem dX5_hasKey_11 : decode cX5_hasKey 11 = .ok (.invokevirtual 50, 3) := by decide +kernel
theorem dX5_hasKey_14 : decode cX5_hasKey 14 = .ok (.iconst (-1), 1) := by decide +kernel
theorem dX5_hasKey_15 : decode cX5_hasKey 15 = .ok (.if_icmp .eq 7, 3) := by decide +kernel
theorem dX5_hasKey_18 : decode cX5_hasKey 18 = .ok (.iconst 1, 1) := by decide +kernel
theorem dX5_hasKey_19 : decode cX5_hasKey 19 = .ok (.goto 4, 3) := by decide +kernel
theorem dX5_hasKey_22 : decode cX5_hasKey 22 = .ok (.iconst 0, 1) := by decide +kernel
theorem dX5_hasKey_23 : decode cX5_hasKey 23 = .ok (.invokevirtual 82, 3) := by decide +kernel
theorem dX5_hasKey_26 : decode cX5_hasKey 26 = .ok (.goto 8, 3) := by decide +kernel
theorem dX5_hasKey_29 : decode cX5_hasKey 29 = .ok (.aload_n 0, 1) := by decide +kernel
theorem dX5_hasKey_30 : decode cX5_hasKey 30 = .ok (.iconst 1, 1) := by decide +kernel
theorem dX5_hasKey_31 : decode cX5_hasKey 31 = .ok (.invokevirtual 72, 3) := by decide +kernel
theorem dX5_hasKey_34 : decode cX5_hasKey 34 = .ok (.ireturn, 1) := by decide +kernel
theorem dX5_hasValue_0 : decode cX5_hasValue 0 = .ok (.iload_n 1, 1) := by decide +kernel
theorem dX5_hasValue_1 : decode cX5_hasValue 1 = .ok (.invokestatic 68, 3) := by decide +kernel
theorem dX5_hasValue_4 : decode cX5_hasValue 4 = .ok (.ifCond .ne 9, 3) := by decide +kernel
theorem dX5_hasValue_7 : decode cX5_hasValue 7 = .ok (.aload_n 0, 1) := by decide +kernel
theorem dX5_hasValue_8 : decode cX5_hasValue 8 = .ok (.iconst 1, 1) := by decide +kernel
theorem dX5_hasValue_9 : decode cX5_hasValue 9 = .ok (.invokevirtual 72, 3) := by decide +kernel
theorem dX5_hasValue_12 : decode cX5_hasValue 12 = .ok (.ireturn, 1) := by decide +kernel
theorem dX5_hasValue_13 : decode cX5_hasValue 13 = .ok (.iconst 0, 1) := by decide +kernel
theorem dX5_hasValue_14 : decode cX5_hasValue 14 = .ok (.istore_n 3, 1) := by decide +kernel
theorem dX5_hasValue_15 : decode cX5_hasValue 15 = .ok (.iconst 0, 1) := by decide +kernel
theorem dX5_hasValue_16 : decode cX5_hasValue 16 = .ok (.istore 4, 2) := by decide +kernel
theorem dX5_hasValue_18 : decode cX5_hasValue 18 = .ok (.iload 4, 2) := by decide +kernel
theorem dX5_hasValue_20 : decode cX5_hasValue 20 = .ok (.aload_n 0, 1) := by decide +kernel
theorem dX5_hasValue_21 : decode cX5_hasValue 21 = .ok (.getfield 16, 3) := by decide +kernel
theorem dX5_hasValue_24 : decode cX5_hasValue 24 = .ok (.iload_n 1, 1) := by decide +kernel
theorem dX5_hasValue_25 : decode cX5_hasValue 25 = .ok (.iaload, 1) := by decide +kernel
theorem dX5_hasValue_26 : decode cX5_hasValue 26 = .ok (.if_icmp .ge 36, 3) := by decide +kernel
theorem dX5_hasValue_29 : decode cX5_hasValue 29 = .ok (.iload_n 3, 1) := by decide +kernel
theorem dX5_hasValue_30 : decode cX5_hasValue 30 = .ok (.ifCond .ne 20, 3) := by decide +kernel
theorem dX5_hasValue_33 : decode cX5_hasValue 33 = .ok (.aload_n 0, 1) := by decide +kernel
theorem dX5_hasValue_34 : decode cX5_hasValue 34 = .ok (.getfield 13, 3) := by decide +kernel
theorem dX5_hasValue_37 : decode cX5_hasValue 37 = .ok (.sipush 201, 3) := by decide +kernel
theorem dX5_hasValue_40 : decode cX5_hasValue 40 = .ok (.iload_n 1, 1) := by decide +kernel
theorem dX5_hasValue_41 : decode cX5_hasValue 41 = .ok (.imul, 1) := by decide +kernel
theorem dX5_hasValue_42 : decode cX5_hasValue 42 = .ok (.iload 4, 2) := by decide +kernel
theorem dX5_hasValue_44 : decode cX5_hasValue 44 = .ok (.iadd, 1) := by decide +kernel
theorem dX5_hasValue_45 : decode cX5_hasValue 45 = .ok (.iaload, 1) := by decide +kernel
theorem dX5_hasValue_46 : decode cX5_hasValue 46 = .ok (.iload_n 2, 1) := by decide +kernel
theorem dX5_hasValue_47 : decode cX5_hasValue 47 = .ok (.if_icmp .ne 7, 3) := by decide +kernel
theorem dX5_hasValue_50 : decode cX5_hasValue 50 = .ok (.iconst 1, 1) := by decide +kernel
theorem dX5_hasValue_51 : decode cX5_hasValue 51 = .ok (.goto 4, 3) := by decide +kernel
theorem dX5_hasValue_54 : decode cX5_hasValue 54 = .ok (.iconst 0, 1) := by decide +kernel
theorem dX5_hasValue_55 : decode cX5_hasValue 55 = .ok (.istore_n 3, 1) := by decide +kernel
theorem dX5_hasValue_56 : decode cX5_hasValue 56 = .ok (.iinc 4 1, 3) := by decide +kernel
theorem dX5_hasValue_59 : decode cX5_hasValue 59 = .ok (.goto (-41), 3) := by decide +kernel
theorem dX5_hasValue_62 : decode cX5_hasValue 62 = .ok (.aload_n 0, 1) := by decide +kernel
theorem dX5_hasValue_63 : decode cX5_hasValue 63 = .ok (.iload_n 3, 1) := by decide +kernel
theorem dX5_hasValue_64 : decode cX5_hasValue 64 = .ok (.invokevirtual 82, 3) := by decide +kernel
theorem dX5_hasValue_67 : decode cX5_hasValue 67 = .ok (.ireturn, 1) := by decide +kernel
theorem dX5_get_0 : decode cX5_get 0 = .ok (.iload_n 1, 1) := by decide +kernel
theorem dX5_get_1 : decode cX5_get 1 = .ok (.invokestatic 68, 3) := by decide +kernel
theorem dX5_get_4 : decode cX5_get 4 = .ok (.ifCond .ne 9, 3) := by decide +kernel
theorem dX5_get_7 : decode cX5_get 7 = .ok (.aload_n 0, 1) := by decide +kernel
theorem dX5_get_8 : decode cX5_get 8 = .ok (.iconst 1, 1) := by decide +kernel
theorem dX5_get_9 : decode cX5_get 9 = .ok (.invokevirtual 58, 3) := by decide +kernel
theorem dX5_get_12 : decode cX5_get 12 = .ok (.ireturn, 1) := by decide +kernel
theorem dX5_get_13 : decode cX5_get 13 = .ok (.aload_n 0, 1) := by decide +kernel
theorem dX5_get_14 : decode cX5_get 14 = .ok (.iload_n 1, 1) := by decide +kernel
theorem dX5_get_15 : decode cX5_get 15 = .ok (.iload_n 2, 1) := by decide +kernel
theorem dX5_get_16 : decode cX5_get 16 = .ok (.invokevirtual 50, 3) := by decide +kernel
theorem dX5_get_19 : decode cX5_get 19 = .ok (.istore 4, 2) := by decide +kernel
theorem dX5_get_21 : decode cX5_get 21 = .ok (.aload_n 0, 1) := by decide +kernel
theorem dX5_get_22 : decode cX5_get 22 = .ok (.iload 4, 2) := by decide +kernel
theorem dX5_get_24 : decode cX5_get 24 = .ok (.iconst (-1), 1) := by decide +kernel
theorem dX5_get_25 : decode cX5_get 25 = .ok (.if_icmp .ne 7, 3) := by decide +kernel
theorem dX5_get_28 : decode cX5_get 28 = .ok (.iload_n 3, 1) := by decide +kernel
theorem dX5_get_29 : decode cX5_get 29 = .ok (.goto 16, 3) := by decide +kernel
theorem dX5_get_32 : decode cX5_get 32 = .ok (.aload_n 0, 1) := by decide +kernel
theorem dX5_get_33 : decode cX5_get 33 = .ok (.getfield 13, 3) := by decide +kernel
theorem dX5_get_36 : decode cX5_get 36 = .ok (.sipush 201, 3) := by decide +kernel
theorem dX5_get_39 : decode cX5_get 39 = .ok (.iload_n 1, 1) := by decide +kernel
theorem dX5_get_40 : decode cX5_get 40 = .ok (.imul, 1) := by decide +kernel
theorem dX5_get_41 : decode cX5_get 41 = .ok (.iload 4, 2) := by decide +kernel
theorem dX5_get_43 : decode cX5_get 43 = .ok (.iadd, 1) := by decide +kernel
theorem dX5_get_44 : decode cX5_get 44 = .ok (.iaload, 1) := by decide +kernel
theorem dX5_get_45 : decode cX5_get 45 = .ok (.invokevirtual 65, 3) := by decide +kernel
theorem dX5_get_48 : decode cX5_get 48 = .ok (.ireturn, 1) := by decide +kernel
theorem dX5_keyAt_0 : decode cX5_keyAt 0 = .ok (.aload_n 0, 1) := by decide +kernel
theorem dX5_keyAt_1 : decode cX5_keyAt 1 = .ok (.iload_n 1, 1) := by decide +kernel
theorem dX5_keyAt_2 : decode cX5_keyAt 2 = .ok (.iload_n 2, 1) := by decide +kernel
theorem dX5_keyAt_3 : decode cX5_keyAt 3 = .ok (.invokevirtual 101, 3) := by decide +kernel
theorem dX5_keyAt_6 : decode cX5_keyAt 6 = .ok (.ifCond .eq 22, 3) := by decide +kernel
theorem dX5_keyAt_9 : decode cX5_keyAt 9 = .ok (.aload_n 0, 1) := by decide +kernel
theorem dX5_keyAt_10 : decode cX5_keyAt 10 = .ok (.aload_n 0, 1) := by decide +kernel
theorem dX5_keyAt_11 : decode cX5_keyAt 11 = .ok (.getfield 7, 3) := by decide +kernel
theorem dX5_keyAt_14 : decode cX5_keyAt 14 = .ok (.sipush 201, 3) := by decide +kernel
theorem dX5_keyAt_17 : decode cX5_keyAt 17 = .ok (.iload_n 1, 1) := by decide +kernel
theorem dX5_keyAt_18 : decode cX5_keyAt 18 = .ok (.imul, 1) := by decide +kernel
theorem dX5_keyAt_19 : decode cX5_keyAt 19 = .ok (.iload_n 2, 1) := by decide +kernel
theorem dX5_keyAt_20 : decode cX5_keyAt 20 = .ok (.iadd, 1) := by decide +kernel
theorem dX5_keyAt_21 : decode cX5_keyAt 21 = .ok (.iaload, 1) := by decide +kernel
theorem dX5_keyAt_22 : decode cX5_keyAt 22 = .ok (.invokevirtual 65, 3) := by decide +kernel
theorem dX5_keyAt_25 : decode cX5_keyAt 25 = .ok (.goto 8, 3) := by decide +kernel
theorem dX5_keyAt_28 : decode cX5_keyAt 28 = .ok (.aload_n 0, 1) := by decide +kernel
theorem dX5_keyAt_29 : decode cX5_keyAt 29 = .ok (.iconst 1, 1) := by decide +kernel
theorem dX5_keyAt_30 : decode cX5_keyAt 30 = .ok (.invokevirtual 58, 3) := by decide +kernel
theorem dX5_keyAt_33 : decode cX5_keyAt 33 = .ok (.ireturn, 1) := by decide +kernel
theorem dX5_valueAt_0 : decode cX5_valueAt 0 = .ok (.aload_n 0, 1) := by decide +kernel
theorem dX5_valueAt_1 : decode cX5_valueAt 1 = .ok (.iload_n 1, 1) := by decide +kernel
theorem dX5_valueAt_2 : decode cX5_valueAt 2 = .ok (.iload_n 2, 1) := by decide +kernel
theorem dX5_valueAt_3 : decode cX5_valueAt 3 = .ok (.invokevirtual 101, 3) := by decide +kernel
theorem dX5_valueAt_6 : decode cX5_valueAt 6 = .ok (.ifCond .eq 22, 3) := by decide +kernel
theorem dX5_valueAt_9 : decode cX5_valueAt 9 = .ok (.aload_n 0, 1) := by decide +kernel
theorem dX5_valueAt_10 : decode cX5_valueAt 10 = .ok (.aload_n 0, 1) := by decide +kernel
theorem dX5_valueAt_11 : decode cX5_valueAt 11 = .ok (.getfield 13, 3) := by decide +kernel
theorem dX5_valueAt_14 : decode cX5_valueAt 14 = .ok (.sipush 201, 3) := by decide +kernel
theorem dX5_valueAt_17 : decode cX5_valueAt 17 = .ok (.iload_n 1, 1) := by decide +kernel
theorem dX5_valueAt_18 : decode cX5_valueAt 18 = .ok (.imul, 1) := by decide +kernel
theorem dX5_valueAt_19 : decode cX5_valueAt 19 = .ok (.iload_n 2, 1) := by decide +kernel
theorem dX5_valueAt_20 : decode cX5_valueAt 20 = .ok (.iadd, 1) := by decide +kernel
theorem dX5_valueAt_21 : decode cX5_valueAt 21 = .ok (.iaload, 1) := by decide +kernel
theorem dX5_valueAt_22 : decode cX5_valueAt 22 = .ok (.invokevirtual 65, 3) := by decide +kernel
theorem dX5_valueAt_25 : decode cX5_valueAt 25 = .ok (.goto 8, 3) := by decide +kernel
theorem dX5_valueAt_28 : decode cX5_valueAt 28 = .ok (.aload_n 0, 1) := by decide +kernel
theorem dX5_valueAt_29 : decode cX5_valueAt 29 = .ok (.iconst 1, 1) := by decide +kernel
theorem dX5_valueAt_30 : decode cX5_valueAt 30 = .ok (.invokevirtual 58, 3) := by decide +kernel
theorem dX5_valueAt_33 : decode cX5_valueAt 33 = .ok (.ireturn, 1) := by decide +kernel
theorem dX5_placeOf_0 : decode cX5_placeOf 0 = .ok (.iload_n 1, 1) := by decide +kernel
theorem dX5_placeOf_1 : decode cX5_placeOf 1 = .ok (.invokestatic 68, 3) := by decide +kernel
theorem dX5_placeOf_4 : decode cX5_placeOf 4 = .ok (.ifCond .eq 16, 3) := by decide +kernel
theorem dX5_placeOf_7 : decode cX5_placeOf 7 = .ok (.aload_n 0, 1) := by decide +kernel
theorem dX5_placeOf_8 : decode cX5_placeOf 8 = .ok (.aload_n 0, 1) := by decide +kernel
theorem dX5_placeOf_9 : decode cX5_placeOf 9 = .ok (.iload_n 1, 1) := by decide +kernel
theorem dX5_placeOf_10 : decode cX5_placeOf 10 = .ok (.iload_n 2, 1) := by decide +kernel
theorem dX5_placeOf_11 : decode cX5_placeOf 11 = .ok (.invokevirtual 50, 3) := by decide +kernel
theorem dX5_placeOf_14 : decode cX5_placeOf 14 = .ok (.invokevirtual 65, 3) := by decide +kernel
theorem dX5_placeOf_17 : decode cX5_placeOf 17 = .ok (.goto 8, 3) := by decide +kernel
theorem dX5_placeOf_20 : decode cX5_placeOf 20 = .ok (.aload_n 0, 1) := by decide +kernel
theorem dX5_placeOf_21 : decode cX5_placeOf 21 = .ok (.iconst 1, 1) := by decide +kernel
theorem dX5_placeOf_22 : decode cX5_placeOf 22 = .ok (.invokevirtual 58, 3) := by decide +kernel
theorem dX5_placeOf_25 : decode cX5_placeOf 25 = .ok (.ireturn, 1) := by decide +kernel
theorem dX5_hasPair_0 : decode cX5_hasPair 0 = .ok (.aload_n 0, 1) := by decide +kernel
theorem dX5_hasPair_1 : decode cX5_hasPair 1 = .ok (.iload_n 1, 1) := by decide +kernel
theorem dX5_hasPair_2 : decode cX5_hasPair 2 = .ok (.iload_n 2, 1) := by decide +kernel
theorem dX5_hasPair_3 : decode cX5_hasPair 3 = .ok (.invokevirtual 50, 3) := by decide +kernel
theorem dX5_hasPair_6 : decode cX5_hasPair 6 = .ok (.istore 4, 2) := by decide +kernel
theorem dX5_hasPair_8 : decode cX5_hasPair 8 = .ok (.iload 4, 2) := by decide +kernel
theorem dX5_hasPair_10 : decode cX5_hasPair 10 = .ok (.iconst (-1), 1) := by decide +kernel
theorem dX5_hasPair_11 : decode cX5_hasPair 11 = .ok (.if_icmp .eq 24, 3) := by decide +kernel
theorem dX5_hasPair_14 : decode cX5_hasPair 14 = .ok (.aload_n 0, 1) := by decide +kernel
theorem dX5_hasPair_15 : decode cX5_hasPair 15 = .ok (.getfield 13, 3) := by decide +kernel
theorem dX5_hasPair_18 : decode cX5_hasPair 18 = .ok (.sipush 201, 3) := by decide +kernel
theorem dX5_hasPair_21 : decode cX5_hasPair 21 = .ok (.iload_n 1, 1) := by decide +kernel
theorem dX5_hasPair_22 : decode cX5_hasPair 22 = .ok (.imul, 1) := by decide +kernel
theorem dX5_hasPair_23 : decode cX5_hasPair 23 = .ok (.iload 4, 2) := by decide +kernel
theorem dX5_hasPair_25 : decode cX5_hasPair 25 = .ok (.iadd, 1) := by decide +kernel
theorem dX5_hasPair_26 : decode cX5_hasPair 26 = .ok (.iaload, 1) := by decide +kernel
theorem dX5_hasPair_27 : decode cX5_hasPair 27 = .ok (.iload_n 3, 1) := by decide +kernel
theorem dX5_hasPair_28 : decode cX5_hasPair 28 = .ok (.if_icmp .ne 7, 3) := by decide +kernel
theorem dX5_hasPair_31 : decode cX5_hasPair 31 = .ok (.iconst 1, 1) := by decide +kernel
theorem dX5_hasPair_32 : decode cX5_hasPair 32 = .ok (.goto 4, 3) := by decide +kernel
theorem dX5_hasPair_35 : decode cX5_hasPair 35 = .ok (.iconst 0, 1) := by decide +kernel
theorem dX5_hasPair_36 : decode cX5_hasPair 36 = .ok (.ireturn, 1) := by decide +kernel
theorem dX5_areEqual_0 : decode cX5_areEqual 0 = .ok (.iload_n 1, 1) := by decide +kernel
theorem dX5_areEqual_1 : decode cX5_areEqual 1 = .ok (.invokestatic 68, 3) := by decide +kernel
theorem dX5_areEqual_4 : decode cX5_areEqual 4 = .ok (.ifCond .eq 10, 3) := by decide +kernel
theorem dX5_areEqual_7 : decode cX5_areEqual 7 = .ok (.iload_n 2, 1) := by decide +kernel
theorem dX5_areEqual_8 : decode cX5_areEqual 8 = .ok (.invokestatic 68, 3) := by decide +kernel
theorem dX5_areEqual_11 : decode cX5_areEqual 11 = .ok (.ifCond .ne 9, 3) := by decide +kernel
theorem dX5_areEqual_14 : decode cX5_areEqual 14 = .ok (.aload_n 0, 1) := by decide +kernel
theorem dX5_areEqual_15 : decode cX5_areEqual 15 = .ok (.iconst 1, 1) := by decide +kernel
theorem dX5_areEqual_16 : decode cX5_areEqual 16 = .ok (.invokevirtual 72, 3) := by decide +kernel
theorem dX5_areEqual_19 : decode cX5_areEqual 19 = .ok (.ireturn, 1) := by decide +kernel
theorem dX5_areEqual_20 : decode cX5_areEqual 20 = .ok (.aload_n 0, 1) := by decide +kernel
theorem dX5_areEqual_21 : decode cX5_areEqual 21 = .ok (.getfield 16, 3) := by decide +kernel
theorem dX5_areEqual_24 : decode cX5_areEqual 24 = .ok (.iload_n 1, 1) := by decide +kernel
theorem dX5_areEqual_25 : decode cX5_areEqual 25 = .ok (.iaload, 1) := by decide +kernel
theorem dX5_areEqual_26 : decode cX5_areEqual 26 = .ok (.aload_n 0, 1) := by decide +kernel
theorem dX5_areEqual_27 : decode cX5_areEqual 27 = .ok (.getfield 16, 3) := by decide +kernel
theorem dX5_areEqual_30 : decode cX5_areEqual 30 = .ok (.iload_n 2, 1) := by decide +kernel
theorem dX5_areEqual_31 : decode cX5_areEqual 31 = .ok (.iaload, 1) := by decide +kernel
theorem dX5_areEqual_32 : decode cX5_areEqual 32 = .ok (.if_icmp .ne 7, 3) := by decide +kernel
theorem dX5_areEqual_35 : decode cX5_areEqual 35 = .ok (.iconst 1, 1) := by decide +kernel
theorem dX5_areEqual_36 : decode cX5_areEqual 36 = .ok (.goto 4, 3) := by decide +kernel
theorem dX5_areEqual_39 : decode cX5_areEqual 39 = .ok (.iconst 0, 1) := by decide +kernel
theorem dX5_areEqual_40 : decode cX5_areEqual 40 = .ok (.istore_n 3, 1) := by decide +kernel
theorem dX5_areEqual_41 : decode cX5_areEqual 41 = .ok (.iconst 0, 1) := by decide +kernel
theorem dX5_areEqual_42 : decode cX5_areEqual 42 = .ok (.istore 4, 2) := by decide +kernel
theorem dX5_areEqual_44 : decode cX5_areEqual 44 = .ok (.iload 4, 2) := by decide +kernel
theorem dX5_areEqual_46 : decode cX5_areEqual 46 = .ok (.aload_n 0, 1) := by decide +kernel
theorem dX5_areEqual_47 : decode cX5_areEqual 47 = .ok (.getfield 16, 3) := by decide +kernel
theorem dX5_areEqual_50 : decode cX5_areEqual 50 = .ok (.iload_n 1, 1) := by decide +kernel
theorem dX5_areEqual_51 : decode cX5_areEqual 51 = .ok (.iaload, 1) := by decide +kernel
theorem dX5_areEqual_52 : decode cX5_areEqual 52 = .ok (.if_icmp .ge 45, 3) := by decide +kernel
theorem dX5_areEqual_55 : decode cX5_areEqual 55 = .ok (.iload_n 3, 1) := by decide +kernel
theorem dX5_areEqual_56 : decode cX5_areEqual 56 = .ok (.ifCond .eq 41, 3) := by decide +kernel
theorem dX5_areEqual_59 : decode cX5_areEqual 59 = .ok (.aload_n 0, 1) := by decide +kernel
theorem dX5_areEqual_60 : decode cX5_areEqual 60 = .ok (.iload_n 2, 1) := by decide +kernel
theorem dX5_areEqual_61 : decode cX5_areEqual 61 = .ok (.aload_n 0, 1) := by decide +kernel
theorem dX5_areEqual_62 : decode cX5_areEqual 62 = .ok (.getfield 7, 3) := by decide +kernel
theorem dX5_areEqual_65 : decode cX5_areEqual 65 = .ok (.sipush 201, 3) := by decide +kernel
theorem dX5_areEqual_68 : decode cX5_areEqual 68 = .ok (.iload_n 1, 1) := by decide +kernel
theorem dX5_areEqual_69 : decode cX5_areEqual 69 = .ok (.imul, 1) := by decide +kernel
theorem dX5_areEqual_70 : decode cX5_areEqual 70 = .ok (.iload 4, 2) := by decide +kernel
theorem dX5_areEqual_72 : decode cX5_areEqual 72 = .ok (.iadd, 1) := by decide +kernel
theorem dX5_areEqual_73 : decode cX5_areEqual 73 = .ok (.iaload, 1) := by decide +kernel
theorem dX5_areEqual_74 : decode cX5_areEqual 74 = .ok (.aload_n 0, 1) := by decide +kernel
theorem dX5_areEqual_75 : decode cX5_areEqual 75 = .ok (.getfield 13, 3) := by decide +kernel
theorem dX5_areEqual_78 : decode cX5_areEqual 78 = .ok (.sipush 201, 3) := by decide +kernel
theorem dX5_areEqual_81 : decode cX5_areEqual 81 = .ok (.iload_n 1, 1) := by decide +kernel
theorem dX5_areEqual_82 : decode cX5_areEqual 82 = .ok (.imul, 1) := by decide +kernel
theorem dX5_areEqual_83 : decode cX5_areEqual 83 = .ok (.iload 4, 2) := by decide +kernel
theorem dX5_areEqual_85 : decode cX5_areEqual 85 = .ok (.iadd, 1) := by decide +kernel
theorem dX5_areEqual_86 : decode cX5_areEqual 86 = .ok (.iaload, 1) := by decide +kernel
theorem dX5_areEqual_87 : decode cX5_areEqual 87 = .ok (.invokevirtual 104, 3) := by decide +kernel
theorem dX5_areEqual_90 : decode cX5_areEqual 90 = .ok (.istore_n 3, 1) := by decide +kernel
theorem dX5_areEqual_91 : decode cX5_areEqual 91 = .ok (.iinc 4 1, 3) := by decide +kernel
theorem dX5_areEqual_94 : decode cX5_areEqual 94 = .ok (.goto (-50), 3) := by decide +kernel
theorem dX5_areEqual_97 : decode cX5_areEqual 97 = .ok (.aload_n 0, 1) := by decide +kernel
theorem dX5_areEqual_98 : decode cX5_areEqual 98 = .ok (.iload_n 3, 1) := by decide +kernel
theorem dX5_areEqual_99 : decode cX5_areEqual 99 = .ok (.invokevirtual 82, 3) := by decide +kernel
theorem dX5_areEqual_102 : decode cX5_areEqual 102 = .ok (.ireturn, 1) := by decide +kernel
theorem dX5_areAlike_0 : decode cX5_areAlike 0 = .ok (.iload_n 1, 1) := by decide +kernel
theorem dX5_areAlike_1 : decode cX5_areAlike 1 = .ok (.invokestatic 68, 3) := by decide +kernel
theorem dX5_areAlike_4 : decode cX5_areAlike 4 = .ok (.ifCond .eq 10, 3) := by decide +kernel
theorem dX5_areAlike_7 : decode cX5_areAlike 7 = .ok (.iload_n 2, 1) := by decide +kernel
theorem dX5_areAlike_8 : decode cX5_areAlike 8 = .ok (.invokestatic 68, 3) := by decide +kernel
theorem dX5_areAlike_11 : decode cX5_areAlike 11 = .ok (.ifCond .ne 9, 3) := by decide +kernel
theorem dX5_areAlike_14 : decode cX5_areAlike 14 = .ok (.aload_n 0, 1) := by decide +kernel
theorem dX5_areAlike_15 : decode cX5_areAlike 15 = .ok (.iconst 1, 1) := by decide +kernel
theorem dX5_areAlike_16 : decode cX5_areAlike 16 = .ok (.invokevirtual 72, 3) := by decide +kernel
theorem dX5_areAlike_19 : decode cX5_areAlike 19 = .ok (.ireturn, 1) := by decide +kernel
theorem dX5_areAlike_20 : decode cX5_areAlike 20 = .ok (.aload_n 0, 1) := by decide +kernel
theorem dX5_areAlike_21 : decode cX5_areAlike 21 = .ok (.getfield 16, 3) := by decide +kernel
theorem dX5_areAlike_24 : decode cX5_areAlike 24 = .ok (.iload_n 1, 1) := by decide +kernel
theorem dX5_areAlike_25 : decode cX5_areAlike 25 = .ok (.iaload, 1) := by decide +kernel
theorem dX5_areAlike_26 : decode cX5_areAlike 26 = .ok (.aload_n 0, 1) := by decide +kernel
theorem dX5_areAlike_27 : decode cX5_areAlike 27 = .ok (.getfield 16, 3) := by decide +kernel
theorem dX5_areAlike_30 : decode cX5_areAlike 30 = .ok (.iload_n 2, 1) := by decide +kernel
theorem dX5_areAlike_31 : decode cX5_areAlike 31 = .ok (.iaload, 1) := by decide +kernel
theorem dX5_areAlike_32 : decode cX5_areAlike 32 = .ok (.if_icmp .ne 7, 3) := by decide +kernel
theorem dX5_areAlike_35 : decode cX5_areAlike 35 = .ok (.iconst 1, 1) := by decide +kernel
theorem dX5_areAlike_36 : decode cX5_areAlike 36 = .ok (.goto 4, 3) := by decide +kernel
theorem dX5_areAlike_39 : decode cX5_areAlike 39 = .ok (.iconst 0, 1) := by decide +kernel
theorem dX5_areAlike_40 : decode cX5_areAlike 40 = .ok (.istore_n 3, 1) := by decide +kernel
theorem dX5_areAlike_41 : decode cX5_areAlike 41 = .ok (.iconst 0, 1) := by decide +kernel
theorem dX5_areAlike_42 : decode cX5_areAlike 42 = .ok (.istore 4, 2) := by decide +kernel
theorem dX5_areAlike_44 : decode cX5_areAlike 44 = .ok (.iload 4, 2) := by decide +kernel
theorem dX5_areAlike_46 : decode cX5_areAlike 46 = .ok (.aload_n 0, 1) := by decide +kernel
theorem dX5_areAlike_47 : decode cX5_areAlike 47 = .ok (.getfield 16, 3) := by decide +kernel
theorem dX5_areAlike_50 : decode cX5_areAlike 50 = .ok (.iload_n 1, 1) := by decide +kernel
theorem dX5_areAlike_51 : decode cX5_areAlike 51 = .ok (.iaload, 1) := by decide +kernel
theorem dX5_areAlike_52 : decode cX5_areAlike 52 = .ok (.if_icmp .ge 77, 3) := by decide +kernel
theorem dX5_areAlike_55 : decode cX5_areAlike 55 = .ok (.iload_n 3, 1) := by decide +kernel
theorem dX5_areAlike_56 : decode cX5_areAlike 56 = .ok (.ifCond .eq 73, 3) := by decide +kernel
theorem dX5_areAlike_59 : decode cX5_areAlike 59 = .ok (.aload_n 0, 1) := by decide +kernel
theorem dX5_areAlike_60 : decode cX5_areAlike 60 = .ok (.getfield 7, 3) := by decide +kernel
theorem dX5_areAlike_63 : decode cX5_areAlike 63 = .ok (.sipush 201, 3) := by decide +kernel
theorem dX5_areAlike_66 : decode cX5_areAlike 66 = .ok (.iload_n 1, 1) := by decide +kernel
theorem dX5_areAlike_67 : decode cX5_areAlike 67 = .ok (.imul, 1) := by decide +kernel
theorem dX5_areAlike_68 : decode cX5_areAlike 68 = .ok (.iload 4, 2) := by decide +kernel
theorem dX5_areAlike_70 : decode cX5_areAlike 70 = .ok (.iadd, 1) := by decide +kernel
theorem dX5_areAlike_71 : decode cX5_areAlike 71 = .ok (.iaload, 1) := by decide +kernel
theorem dX5_areAlike_72 : decode cX5_areAlike 72 = .ok (.aload_n 0, 1) := by decide +kernel
theorem dX5_areAlike_73 : decode cX5_areAlike 73 = .ok (.getfield 7, 3) := by decide +kernel
theorem dX5_areAlike_76 : decode cX5_areAlike 76 = .ok (.sipush 201, 3) := by decide +kernel
theorem dX5_areAlike_79 : decode cX5_areAlike 79 = .ok (.iload_n 2, 1) := by decide +kernel
theorem dX5_areAlike_80 : decode cX5_areAlike 80 = .ok (.imul, 1) := by decide +kernel
theorem dX5_areAlike_81 : decode cX5_areAlike 81 = .ok (.iload 4, 2) := by decide +kernel
theorem dX5_areAlike_83 : decode cX5_areAlike 83 = .ok (.iadd, 1) := by decide +kernel
theorem dX5_areAlike_84 : decode cX5_areAlike 84 = .ok (.iaload, 1) := by decide +kernel
theorem dX5_areAlike_85 : decode cX5_areAlike 85 = .ok (.if_icmp .ne 36, 3) := by decide +kernel
theorem dX5_areAlike_88 : decode cX5_areAlike 88 = .ok (.aload_n 0, 1) := by decide +kernel
theorem dX5_areAlike_89 : decode cX5_areAlike 89 = .ok (.getfield 13, 3) := by decide +kernel
theorem dX5_areAlike_92 : decode cX5_areAlike 92 = .ok (.sipush 201, 3) := by decide +kernel
theorem dX5_areAlike_95 : decode cX5_areAlike 95 = .ok (.iload_n 1, 1) := by decide +kernel
theorem dX5_areAlike_96 : decode cX5_areAlike 96 = .ok (.imul, 1) := by decide +kernel
theorem dX5_areAlike_97 : decode cX5_areAlike 97 = .ok (.iload 4, 2) := by decide +kernel
theorem dX5_areAlike_99 : decode cX5_areAlike 99 = .ok (.iadd, 1) := by decide +kernel
theorem dX5_areAlike_100 : decode cX5_areAlike 100 = .ok (.iaload, 1) := by decide +kernel
