theorem dL_size_8 : decode cL_size 8 = .ok (.lastore, 1) := by decide +kernel
theorem dL_size_9 : decode cL_size 9 = .ok (.goto 6, 3) := by decide +kernel
theorem dL_size_12 : decode cL_size 12 = .ok (.astore_n 3, 1) := by decide +kernel
theorem dL_size_13 : decode cL_size 13 = .ok (.iconst 1, 1) := by decide +kernel
theorem dL_size_14 : decode cL_size 14 = .ok (.ireturn, 1) := by decide +kernel
theorem dL_size_15 : decode cL_size 15 = .ok (.iconst 0, 1) := by decide +kernel
theorem dL_size_16 : decode cL_size 16 = .ok (.ireturn, 1) := by decide +kernel
theorem dL_hasKey_0 : decode cL_hasKey 0 = .ok (.aload_n 3, 1) := by decide +kernel
theorem dL_hasKey_1 : decode cL_hasKey 1 = .ok (.iconst 0, 1) := by decide +kernel
theorem dL_hasKey_2 : decode cL_hasKey 2 = .ok (.aload_n 0, 1) := by decide +kernel
theorem dL_hasKey_3 : decode cL_hasKey 3 = .ok (.iload_n 1, 1) := by decide +kernel
theorem dL_hasKey_4 : decode cL_hasKey 4 = .ok (.iload_n 2, 1) := by decide +kernel
theorem dL_hasKey_5 : decode cL_hasKey 5 = .ok (.invokevirtual 94, 3) := by decide +kernel
theorem dL_hasKey_8 : decode cL_hasKey 8 = .ok (.ifCond .eq 7, 3) := by decide +kernel
theorem dL_hasKey_11 : decode cL_hasKey 11 = .ok (.lconst 1, 1) := by decide +kernel
theorem dL_hasKey_12 : decode cL_hasKey 12 = .ok (.goto 4, 3) := by decide +kernel
theorem dL_hasKey_15 : decode cL_hasKey 15 = .ok (.lconst 0, 1) := by decide +kernel
theorem dL_hasKey_16 : decode cL_hasKey 16 = .ok (.lastore, 1) := by decide +kernel
theorem dL_hasKey_17 : decode cL_hasKey 17 = .ok (.goto 7, 3) := by decide +kernel
theorem dL_hasKey_20 : decode cL_hasKey 20 = .ok (.astore 4, 2) := by decide +kernel
theorem dL_hasKey_22 : decode cL_hasKey 22 = .ok (.iconst 1, 1) := by decide +kernel
theorem dL_hasKey_23 : decode cL_hasKey 23 = .ok (.ireturn, 1) := by decide +kernel
theorem dL_hasKey_24 : decode cL_hasKey 24 = .ok (.iconst 0, 1) := by decide +kernel
theorem dL_hasKey_25 : decode cL_hasKey 25 = .ok (.ireturn, 1) := by decide +kernel
theorem dL_hasValue_0 : decode cL_hasValue 0 = .ok (.aload_n 3, 1) := by decide +kernel
theorem dL_hasValue_1 : decode cL_hasValue 1 = .ok (.iconst 0, 1) := by decide +kernel
theorem dL_hasValue_2 : decode cL_hasValue 2 = .ok (.aload_n 0, 1) := by decide +kernel
theorem dL_hasValue_3 : decode cL_hasValue 3 = .ok (.iload_n 1, 1) := by decide +kernel
theorem dL_hasValue_4 : decode cL_hasValue 4 = .ok (.iload_n 2, 1) := by decide +kernel
theorem dL_hasValue_5 : decode cL_hasValue 5 = .ok (.invokevirtual 97, 3) := by decide +kernel
theorem dL_hasValue_8 : decode cL_hasValue 8 = .ok (.ifCond .eq 7, 3) := by decide +kernel
theorem dL_hasValue_11 : decode cL_hasValue 11 = .ok (.lconst 1, 1) := by decide +kernel
theorem dL_hasValue_12 : decode cL_hasValue 12 = .ok (.goto 4, 3) := by decide +kernel
theorem dL_hasValue_15 : decode cL_hasValue 15 = .ok (.lconst 0, 1) := by decide +kernel
theorem dL_hasValue_16 : decode cL_hasValue 16 = .ok (.lastore, 1) := by decide +kernel
theorem dL_hasValue_17 : decode cL_hasValue 17 = .ok (.goto 7, 3) := by decide +kernel
theorem dL_hasValue_20 : decode cL_hasValue 20 = .ok (.astore 4, 2) := by decide +kernel
theorem dL_hasValue_22 : decode cL_hasValue 22 = .ok (.iconst 1, 1) := by decide +kernel
theorem dL_hasValue_23 : decode cL_hasValue 23 = .ok (.ireturn, 1) := by decide +kernel
theorem dL_hasValue_24 : decode cL_hasValue 24 = .ok (.iconst 0, 1) := by decide +kernel
theorem dL_hasValue_25 : decode cL_hasValue 25 = .ok (.ireturn, 1) := by decide +kernel
theorem dL_get_0 : decode cL_get 0 = .ok (.aload 4, 2) := by decide +kernel
theorem dL_get_2 : decode cL_get 2 = .ok (.iconst 0, 1) := by decide +kernel
theorem dL_get_3 : decode cL_get 3 = .ok (.aload_n 0, 1) := by decide +kernel
theorem dL_get_4 : decode cL_get 4 = .ok (.iload_n 1, 1) := by decide +kernel
theorem dL_get_5 : decode cL_get 5 = .ok (.iload_n 2, 1) := by decide +kernel
theorem dL_get_6 : decode cL_get 6 = .ok (.iload_n 3, 1) := by decide +kernel
theorem dL_get_7 : decode cL_get 7 = .ok (.invokevirtual 100, 3) := by decide +kernel
theorem dL_get_10 : decode cL_get 10 = .ok (.i2l, 1) := by decide +kernel
theorem dL_get_11 : decode cL_get 11 = .ok (.lastore, 1) := by decide +kernel
theorem dL_get_12 : decode cL_get 12 = .ok (.goto 7, 3) := by decide +kernel
theorem dL_get_15 : decode cL_get 15 = .ok (.astore 5, 2) := by decide +kernel
theorem dL_get_17 : decode cL_get 17 = .ok (.iconst 1, 1) := by decide +kernel
theorem dL_get_18 : decode cL_get 18 = .ok (.ireturn, 1) := by decide +kernel
theorem dL_get_19 : decode cL_get 19 = .ok (.iconst 0, 1) := by decide +kernel
theorem dL_get_20 : decode cL_get 20 = .ok (.ireturn, 1) := by decide +kernel
theorem dL_keyAt_0 : decode cL_keyAt 0 = .ok (.aload_n 3, 1) := by decide +kernel
theorem dL_keyAt_1 : decode cL_keyAt 1 = .ok (.iconst 0, 1) := by decide +kernel
theorem dL_keyAt_2 : decode cL_keyAt 2 = .ok (.aload_n 0, 1) := by decide +kernel
theorem dL_keyAt_3 : decode cL_keyAt 3 = .ok (.iload_n 1, 1) := by decide +kernel
theorem dL_keyAt_4 : decode cL_keyAt 4 = .ok (.iload_n 2, 1) := by decide +kernel
theorem dL_keyAt_5 : decode cL_keyAt 5 = .ok (.invokevirtual 103, 3) := by decide +kernel
theorem dL_keyAt_8 : decode cL_keyAt 8 = .ok (.i2l, 1) := by decide +kernel
theorem dL_keyAt_9 : decode cL_keyAt 9 = .ok (.lastore, 1) := by decide +kernel
theorem dL_keyAt_10 : decode cL_keyAt 10 = .ok (.goto 7, 3) := by decide +kernel
theorem dL_keyAt_13 : decode cL_keyAt 13 = .ok (.astore 4, 2) := by decide +kernel
theorem dL_keyAt_15 : decode cL_keyAt 15 = .ok (.iconst 1, 1) := by decide +kernel
theorem dL_keyAt_16 : decode cL_keyAt 16 = .ok (.ireturn, 1) := by decide +kernel
theorem dL_keyAt_17 : decode cL_keyAt 17 = .ok (.iconst 0, 1) := by decide +kernel
theorem dL_keyAt_18 : decode cL_keyAt 18 = .ok (.ireturn, 1) := by decide +kernel
theorem dL_valueAt_0 : decode cL_valueAt 0 = .ok (.aload_n 3, 1) := by decide +kernel
theorem dL_valueAt_1 : decode cL_valueAt 1 = .ok (.iconst 0, 1) := by decide +kernel
theorem dL_valueAt_2 : decode cL_valueAt 2 = .ok (.aload_n 0, 1) := by decide +kernel
theorem dL_valueAt_3 : decode cL_valueAt 3 = .ok (.iload_n 1, 1) := by decide +kernel
theorem dL_valueAt_4 : decode cL_valueAt 4 = .ok (.iload_n 2, 1) := by decide +kernel
theorem dL_valueAt_5 : decode cL_valueAt 5 = .ok (.invokevirtual 106, 3) := by decide +kernel
theorem dL_valueAt_8 : decode cL_valueAt 8 = .ok (.i2l, 1) := by decide +kernel
theorem dL_valueAt_9 : decode cL_valueAt 9 = .ok (.lastore, 1) := by decide +kernel
theorem dL_valueAt_10 : decode cL_valueAt 10 = .ok (.goto 7, 3) := by decide +kernel
theorem dL_valueAt_13 : decode cL_valueAt 13 = .ok (.astore 4, 2) := by decide +kernel
theorem dL_valueAt_15 : decode cL_valueAt 15 = .ok (.iconst 1, 1) := by decide +kernel
theorem dL_valueAt_16 : decode cL_valueAt 16 = .ok (.ireturn, 1) := by decide +kernel
theorem dL_valueAt_17 : decode cL_valueAt 17 = .ok (.iconst 0, 1) := by decide +kernel
theorem dL_valueAt_18 : decode cL_valueAt 18 = .ok (.ireturn, 1) := by decide +kernel
theorem dL_placeOf_0 : decode cL_placeOf 0 = .ok (.aload_n 3, 1) := by decide +kernel
theorem dL_placeOf_1 : decode cL_placeOf 1 = .ok (.iconst 0, 1) := by decide +kernel
theorem dL_placeOf_2 : decode cL_placeOf 2 = .ok (.aload_n 0, 1) := by decide +kernel
theorem dL_placeOf_3 : decode cL_placeOf 3 = .ok (.iload_n 1, 1) := by decide +kernel
theorem dL_placeOf_4 : decode cL_placeOf 4 = .ok (.iload_n 2, 1) := by decide +kernel
theorem dL_placeOf_5 : decode cL_placeOf 5 = .ok (.invokevirtual 109, 3) := by decide +kernel
theorem dL_placeOf_8 : decode cL_placeOf 8 = .ok (.i2l, 1) := by decide +kernel
theorem dL_placeOf_9 : decode cL_placeOf 9 = .ok (.lastore, 1) := by decide +kernel
theorem dL_placeOf_10 : decode cL_placeOf 10 = .ok (.goto 7, 3) := by decide +kernel
theorem dL_placeOf_13 : decode cL_placeOf 13 = .ok (.astore 4, 2) := by decide +kernel
theorem dL_placeOf_15 : decode cL_placeOf 15 = .ok (.iconst 1, 1) := by decide +kernel
theorem dL_placeOf_16 : decode cL_placeOf 16 = .ok (.ireturn, 1) := by decide +kernel
theorem dL_placeOf_17 : decode cL_placeOf 17 = .ok (.iconst 0, 1) := by decide +kernel
theorem dL_placeOf_18 : decode cL_placeOf 18 = .ok (.ireturn, 1) := by decide +kernel
theorem dL_areEqual_0 : decode cL_areEqual 0 = .ok (.aload_n 3, 1) := by decide +kernel
theorem dL_areEqual_1 : decode cL_areEqual 1 = .ok (.iconst 0, 1) := by decide +kernel
theorem dL_areEqual_2 : decode cL_areEqual 2 = .ok (.aload_n 0, 1) := by decide +kernel
theorem dL_areEqual_3 : decode cL_areEqual 3 = .ok (.iload_n 1, 1) := by decide +kernel
theorem dL_areEqual_4 : decode cL_areEqual 4 = .ok (.iload_n 2, 1) := by decide +kernel
theorem dL_areEqual_5 : decode cL_areEqual 5 = .ok (.invokevirtual 112, 3) := by decide +kernel
theorem dL_areEqual_8 : decode cL_areEqual 8 = .ok (.ifCond .eq 7, 3) := by decide +kernel
theorem dL_areEqual_11 : decode cL_areEqual 11 = .ok (.lconst 1, 1) := by decide +kernel
theorem dL_areEqual_12 : decode cL_areEqual 12 = .ok (.goto 4, 3) := by decide +kernel
theorem dL_areEqual_15 : decode cL_areEqual 15 = .ok (.lconst 0, 1) := by decide +kernel
theorem dL_areEqual_16 : decode cL_areEqual 16 = .ok (.lastore, 1) := by decide +kernel
theorem dL_areEqual_17 : decode cL_areEqual 17 = .ok (.goto 7, 3) := by decide +kernel
theorem dL_areEqual_20 : decode cL_areEqual 20 = .ok (.astore 4, 2) := by decide +kernel
theorem dL_areEqual_22 : decode cL_areEqual 22 = .ok (.iconst 1, 1) := by decide +kernel
theorem dL_areEqual_23 : decode cL_areEqual 23 = .ok (.ireturn, 1) := by decide +kernel
theorem dL_areEqual_24 : decode cL_areEqual 24 = .ok (.iconst 0, 1) := by decide +kernel
theorem dL_areEqual_25 : decode cL_areEqual 25 = .ok (.ireturn, 1) := by decide +kernel
theorem dL_areAlike_0 : decode cL_areAlike 0 = .ok (.aload_n 3, 1) := by decide +kernel
theorem dL_areAlike_1 : decode cL_areAlike 1 = .ok (.iconst 0, 1) := by decide +kernel
theorem dL_areAlike_2 : decode cL_areAlike 2 = .ok (.aload_n 0, 1) := by decide +kernel
theorem dL_areAlike_3 : decode cL_areAlike 3 = .ok (.iload_n 1, 1) := by decide +kernel
theorem dL_areAlike_4 : decode cL_areAlike 4 = .ok (.iload_n 2, 1) := by decide +kernel
theorem dL_areAlike_5 : decode cL_areAlike 5 = .ok (.invokevirtual 115, 3) := by decide +kernel
theorem dL_areAlike_8 : decode cL_areAlike 8 = .ok (.ifCond .eq 7, 3) := by decide +kernel
theorem dL_areAlike_11 : decode cL_areAlike 11 = .ok (.lconst 1, 1) := by decide +kernel
theorem dL_areAlike_12 : decode cL_areAlike 12 = .ok (.goto 4, 3) := by decide +kernel
theorem dL_areAlike_15 : decode cL_areAlike 15 = .ok (.lconst 0, 1) := by decide +kernel
theorem dL_areAlike_16 : decode cL_areAlike 16 = .ok (.lastore, 1) := by decide +kernel
theorem dL_areAlike_17 : decode cL_areAlike 17 = .ok (.goto 7, 3) := by decide +kernel
theorem dL_areAlike_20 : decode cL_areAlike 20 = .ok (.astore 4, 2) := by decide +kernel
theorem dL_areAlike_22 : decode cL_areAlike 22 = .ok (.iconst 1, 1) := by decide +kernel
theorem dL_areAlike_23 : decode cL_areAlike 23 = .ok (.ireturn, 1) := by decide +kernel
theorem dL_areAlike_24 : decode cL_areAlike 24 = .ok (.iconst 0, 1) := by decide +kernel
theorem dL_areAlike_25 : decode cL_areAlike 25 = .ok (.ireturn, 1) := by decide +kernel
theorem dL_hash_0 : decode cL_hash 0 = .ok (.aload_n 2, 1) := by decide +kernel
theorem dL_hash_1 : decode cL_hash 1 = .ok (.iconst 0, 1) := by decide +kernel
theorem dL_hash_2 : decode cL_hash 2 = .ok (.aload_n 0, 1) := by decide +kernel
theorem dL_hash_3 : decode cL_hash 3 = .ok (.iload_n 1, 1) := by decide +kernel
theorem dL_hash_4 : decode cL_hash 4 = .ok (.invokevirtual 118, 3) := by decide +kernel
theorem dL_hash_7 : decode cL_hash 7 = .ok (.i2l, 1) := by decide +kernel
theorem dL_hash_8 : decode cL_hash 8 = .ok (.lastore, 1) := by decide +kernel
theorem dL_hash_9 : decode cL_hash 9 = .ok (.goto 6, 3) := by decide +kernel
theorem dL_hash_12 : decode cL_hash 12 = .ok (.astore_n 3, 1) := by decide +kernel
theorem dL_hash_13 : decode cL_hash 13 = .ok (.iconst 1, 1) := by decide +kernel
theorem dL_hash_14 : decode cL_hash 14 = .ok (.ireturn, 1) := by decide +kernel
theorem dL_hash_15 : decode cL_hash 15 = .ok (.iconst 0, 1) := by decide +kernel
theorem dL_hash_16 : decode cL_hash 16 = .ok (.ireturn, 1) := by decide +kernel
theorem dL_sum_0 : decode cL_sum 0 = .ok (.aload_n 2, 1) := by decide +kernel
theorem dL_sum_1 : decode cL_sum 1 = .ok (.iconst 0, 1) := by decide +kernel
theorem dL_sum_2 : decode cL_sum 2 = .ok (.aload_n 0, 1) := by decide +kernel
theorem dL_sum_3 : decode cL_sum 3 = .ok (.iload_n 1, 1) := by decide +kernel
theorem dL_sum_4 : decode cL_sum 4 = .ok (.invokevirtual 121, 3) := by decide +kernel
theorem dL_sum_7 : decode cL_sum 7 = .ok (.lastore, 1) := by decide +kernel
theorem dL_sum_8 : decode cL_sum 8 = .ok (.goto 6, 3) := by decide +kernel
theorem dL_sum_11 : decode cL_sum 11 = .ok (.astore_n 3, 1) := by decide +kernel
theorem dL_sum_12 : decode cL_sum 12 = .ok (.iconst 1, 1) := by decide +kernel
theorem dL_sum_13 : decode cL_sum 13 = .ok (.ireturn, 1) := by decide +kernel
theorem dL_sum_14 : decode cL_sum 14 = .ok (.iconst 0, 1) := by decide +kernel
theorem dL_sum_15 : decode cL_sum 15 = .ok (.ireturn, 1) := by decide +kernel
theorem dL_write_0 : decode cL_write 0 = .ok (.aload_n 2, 1) := by decide +kernel
theorem dL_write_1 : decode cL_write 1 = .ok (.iconst 0, 1) := by decide +kernel
theorem dL_write_2 : decode cL_write 2 = .ok (.aload_n 0, 1) := by decide +kernel
theorem dL_write_3 : decode cL_write 3 = .ok (.iload_n 1, 1) := by decide +kernel
theorem dL_write_4 : decode cL_write 4 = .ok (.invokevirtual 125, 3) := by decide +kernel
theorem dL_write_7 : decode cL_write 7 = .ok (.i2l, 1) := by decide +kernel
theorem dL_write_8 : decode cL_write 8 = .ok (.lastore, 1) := by decide +kernel
theorem dL_write_9 : decode cL_write 9 = .ok (.goto 6, 3) := by decide +kernel
theorem dL_write_12 : decode cL_write 12 = .ok (.astore_n 3, 1) := by decide +kernel
theorem dL_write_13 : decode cL_write 13 = .ok (.iconst 1, 1) := by decide +kernel
theorem dL_write_14 : decode cL_write 14 = .ok (.ireturn, 1) := by decide +kernel
theorem dL_write_15 : decode cL_write 15 = .ok (.iconst 0, 1) := by decide +kernel
theorem dL_write_16 : decode cL_write 16 = .ok (.ireturn, 1) := by decide +kernel
theorem dL_outputAt_0 : decode cL_outputAt 0 = .ok (.aload_n 2, 1) := by decide +kernel
theorem dL_outputAt_1 : decode cL_outputAt 1 = .ok (.iconst 0, 1) := by decide +kernel
theorem dL_outputAt_2 : decode cL_outputAt 2 = .ok (.aload_n 0, 1) := by decide +kernel
theorem dL_outputAt_3 : decode cL_outputAt 3 = .ok (.iload_n 1, 1) := by decide +kernel
theorem dL_outputAt_4 : decode cL_outputAt 4 = .ok (.invokevirtual 128, 3) := by decide +kernel
theorem dL_outputAt_7 : decode cL_outputAt 7 = .ok (.i2l, 1) := by decide +kernel
theorem dL_outputAt_8 : decode cL_outputAt 8 = .ok (.lastore, 1) := by decide +kernel
theorem dL_outputAt_9 : decode cL_outputAt 9 = .ok (.goto 6, 3) := by decide +kernel
theorem dL_outputAt_12 : decode cL_outputAt 12 = .ok (.astore_n 3, 1) := by decide +kernel
theorem dL_outputAt_13 : decode cL_outputAt 13 = .ok (.iconst 1, 1) := by decide +kernel
theorem dL_outputAt_14 : decode cL_outputAt 14 = .ok (.ireturn, 1) := by decide +kernel
theorem dL_outputAt_15 : decode cL_outputAt 15 = .ok (.iconst 0, 1) := by decide +kernel
theorem dL_outputAt_16 : decode cL_outputAt 16 = .ok (.ireturn, 1) := by decide +kernel
theorem dL_isAddRefused_0 : decode cL_isAddRefused 0 = .ok (.aload_n 3, 1) := by decide +kernel
theorem dL_isAddRefused_1 : decode cL_isAddRefused 1 = .ok (.iconst 0, 1) := by decide +kernel
theorem dL_isAddRefused_2 : decode cL_isAddRefused 2 = .ok (.aload_n 0, 1) := by decide +kernel
theorem dL_isAddRefused_3 : decode cL_isAddRefused 3 = .ok (.iload_n 1, 1) := by decide +kernel
theorem dL_isAddRefused_4 : decode cL_isAddRefused 4 = .ok (.iload_n 2, 1) := by decide +kernel
theorem dL_isAddRefused_5 : decode cL_isAddRefused 5 = .ok (.invokevirtual 131, 3) := by decide +kernel
theorem dL_isAddRefused_8 : decode cL_isAddRefused 8 = .ok (.ifCond .eq 7, 3) := by decide +kernel
theorem dL_isAddRefused_11 : decode cL_isAddRefused 11 = .ok (.lconst 1, 1) := by decide +kernel
theorem dL_isAddRefused_12 : decode cL_isAddRefused 12 = .ok (.goto 4, 3) := by decide +kernel
theorem dL_isAddRefused_15 : decode cL_isAddRefused 15 = .ok (.lconst 0, 1) := by decide +kernel
theorem dL_isAddRefused_16 : decode cL_isAddRefused 16 = .ok (.lastore, 1) := by decide +kernel
theorem dL_isAddRefused_17 : decode cL_isAddRefused 17 = .ok (.goto 11, 3) := by decide +kernel
theorem dL_isAddRefused_20 : decode cL_isAddRefused 20 = .ok (.astore 4, 2) := by decide +kernel
theorem dL_isAddRefused_22 : decode cL_isAddRefused 22 = .ok (.iconst 1, 1) := by decide +kernel
theorem dL_isAddRefused_23 : decode cL_isAddRefused 23 = .ok (.ireturn, 1) := by decide +kernel
theorem dL_isAddRefused_24 : decode cL_isAddRefused 24 = .ok (.astore 4, 2) := by decide +kernel
theorem dL_isAddRefused_26 : decode cL_isAddRefused 26 = .ok (.iconst 2, 1) := by decide +kernel
theorem dL_isAddRefused_27 : decode cL_isAddRefused 27 = .ok (.ireturn, 1) := by decide +kernel
theorem dL_isAddRefused_28 : decode cL_isAddRefused 28 = .ok (.iconst 0, 1) := by decide +kernel
theorem dL_isAddRefused_29 : decode cL_isAddRefused 29 = .ok (.ireturn, 1) := by decide +kernel
theorem dL_isNothingRefused_0 : decode cL_isNothingRefused 0 = .ok (.aload_n 3, 1) := by decide +kernel
theorem dL_isNothingRefused_1 : decode cL_isNothingRefused 1 = .ok (.iconst 0, 1) := by decide +kernel
theorem dL_isNothingRefused_2 : decode cL_isNothingRefused 2 = .ok (.aload_n 0, 1) := by decide +kernel
theorem dL_isNothingRefused_3 : decode cL_isNothingRefused 3 = .ok (.iload_n 1, 1) := by decide +kernel
theorem dL_isNothingRefused_4 : decode cL_isNothingRefused 4 = .ok (.iload_n 2, 1) := by decide +kernel
theorem dL_isNothingRefused_5 : decode cL_isNothingRefused 5 = .ok (.invokevirtual 134, 3) := by decide +kernel
theorem dL_isNothingRefused_8 : decode cL_isNothingRefused 8 = .ok (.ifCond .eq 7, 3) := by decide +kernel
theorem dL_isNothingRefused_11 : decode cL_isNothingRefused 11 = .ok (.lconst 1, 1) := by decide +kernel
theorem dL_isNothingRefused_12 : decode cL_isNothingRefused 12 = .ok (.goto 4, 3) := by decide +kernel
theorem dL_isNothingRefused_15 : decode cL_isNothingRefused 15 = .ok (.lconst 0, 1) := by decide +kernel
theorem dL_isNothingRefused_16 : decode cL_isNothingRefused 16 = .ok (.lastore, 1) := by decide +kernel
theorem dL_isNothingRefused_17 : decode cL_isNothingRefused 17 = .ok (.goto 11, 3) := by decide +kernel
theorem dL_isNothingRefused_20 : decode cL_isNothingRefused 20 = .ok (.astore 4, 2) := by decide +kernel
theorem dL_isNothingRefused_22 : decode cL_isNothingRefused 22 = .ok (.iconst 1, 1) := by decide +kernel
theorem dL_isNothingRefused_23 : decode cL_isNothingRefused 23 = .ok (.ireturn, 1) := by decide +kernel
theorem dL_isNothingRefused_24 : decode cL_isNothingRefused 24 = .ok (.astore 4, 2) := by decide +kernel
theorem dL_isNothingRefused_26 : decode cL_isNothingRefused 26 = .ok (.iconst 2, 1) := by decide +kernel
theorem dL_isNothingRefused_27 : decode cL_isNothingRefused 27 = .ok (.ireturn, 1) := by decide +kernel
theorem dL_isNothingRefused_28 : decode cL_isNothingRefused 28 = .ok (.iconst 0, 1) := by decide +kernel
theorem dL_isNothingRefused_29 : decode cL_isNothingRefused 29 = .ok (.ireturn, 1) := by decide +kernel
theorem dL_mean_0 : decode cL_mean 0 = .ok (.aload_n 2, 1) := by decide +kernel
theorem dL_mean_1 : decode cL_mean 1 = .ok (.iconst 0, 1) := by decide +kernel
theorem dL_mean_2 : decode cL_mean 2 = .ok (.aload_n 0, 1) := by decide +kernel
theorem dL_mean_3 : decode cL_mean 3 = .ok (.iload_n 1, 1) := by decide +kernel
theorem dL_mean_4 : decode cL_mean 4 = .ok (.invokevirtual 137, 3) := by decide +kernel
theorem dL_mean_7 : decode cL_mean 7 = .ok (.dastore, 1) := by decide +kernel
theorem dL_mean_8 : decode cL_mean 8 = .ok (.goto 6, 3) := by decide +kernel
theorem dL_mean_11 : decode cL_mean 11 = .ok (.astore_n 3, 1) := by decide +kernel
theorem dL_mean_12 : decode cL_mean 12 = .ok (.iconst 1, 1) := by decide +kernel
theorem dL_mean_13 : decode cL_mean 13 = .ok (.ireturn, 1) := by decide +kernel
theorem dL_mean_14 : decode cL_mean 14 = .ok (.iconst 0, 1) := by decide +kernel
theorem dL_mean_15 : decode cL_mean 15 = .ok (.ireturn, 1) := by decide +kernel
