theorem dX0_init_0 : decode cX0_init 0 = .ok (.aload_n 0, 1) := by decide +kernel
theorem dX0_init_1 : decode cX0_init 1 = .ok (.invokespecial 3, 3) := by decide +kernel
theorem dX0_init_4 : decode cX0_init 4 = .ok (.aload_n 0, 1) := by decide +kernel
theorem dX0_init_5 : decode cX0_init 5 = .ok (.sipush 200, 3) := by decide +kernel
theorem dX0_init_8 : decode cX0_init 8 = .ok (.newarray .int, 2) := by decide +kernel
theorem dX0_init_10 : decode cX0_init 10 = .ok (.putfield 9, 3) := by decide +kernel
theorem dX0_init_13 : decode cX0_init 13 = .ok (.aload_n 0, 1) := by decide +kernel
theorem dX0_init_14 : decode cX0_init 14 = .ok (.sipush 200, 3) := by decide +kernel
theorem dX0_init_17 : decode cX0_init 17 = .ok (.newarray .int, 2) := by decide +kernel
theorem dX0_init_19 : decode cX0_init 19 = .ok (.putfield 15, 3) := by decide +kernel
theorem dX0_init_22 : decode cX0_init 22 = .ok (.return_, 1) := by decide +kernel
theorem dX0_cameIn_0 : decode cX0_cameIn 0 = .ok (.aload_n 0, 1) := by decide +kernel
theorem dX0_cameIn_1 : decode cX0_cameIn 1 = .ok (.getfield 18, 3) := by decide +kernel
theorem dX0_cameIn_4 : decode cX0_cameIn 4 = .ok (.sipush 200, 3) := by decide +kernel
theorem dX0_cameIn_7 : decode cX0_cameIn 7 = .ok (.if_icmp .lt 4, 3) := by decide +kernel
theorem dX0_cameIn_10 : decode cX0_cameIn 10 = .ok (.return_, 1) := by decide +kernel
theorem dX0_cameIn_11 : decode cX0_cameIn 11 = .ok (.aload_n 0, 1) := by decide +kernel
theorem dX0_cameIn_12 : decode cX0_cameIn 12 = .ok (.getfield 9, 3) := by decide +kernel
theorem dX0_cameIn_15 : decode cX0_cameIn 15 = .ok (.aload_n 0, 1) := by decide +kernel
theorem dX0_cameIn_16 : decode cX0_cameIn 16 = .ok (.getfield 18, 3) := by decide +kernel
theorem dX0_cameIn_19 : decode cX0_cameIn 19 = .ok (.iload_n 1, 1) := by decide +kernel
theorem dX0_cameIn_20 : decode cX0_cameIn 20 = .ok (.iastore, 1) := by decide +kernel
theorem dX0_cameIn_21 : decode cX0_cameIn 21 = .ok (.aload_n 0, 1) := by decide +kernel
theorem dX0_cameIn_22 : decode cX0_cameIn 22 = .ok (.getfield 15, 3) := by decide +kernel
theorem dX0_cameIn_25 : decode cX0_cameIn 25 = .ok (.aload_n 0, 1) := by decide +kernel
theorem dX0_cameIn_26 : decode cX0_cameIn 26 = .ok (.getfield 18, 3) := by decide +kernel
theorem dX0_cameIn_29 : decode cX0_cameIn 29 = .ok (.aload_n 0, 1) := by decide +kernel
theorem dX0_cameIn_30 : decode cX0_cameIn 30 = .ok (.getfield 22, 3) := by decide +kernel
theorem dX0_cameIn_33 : decode cX0_cameIn 33 = .ok (.iastore, 1) := by decide +kernel
theorem dX0_cameIn_34 : decode cX0_cameIn 34 = .ok (.aload_n 0, 1) := by decide +kernel
theorem dX0_cameIn_35 : decode cX0_cameIn 35 = .ok (.dup, 1) := by decide +kernel
theorem dX0_cameIn_36 : decode cX0_cameIn 36 = .ok (.getfield 18, 3) := by decide +kernel
theorem dX0_cameIn_39 : decode cX0_cameIn 39 = .ok (.iconst 1, 1) := by decide +kernel
theorem dX0_cameIn_40 : decode cX0_cameIn 40 = .ok (.iadd, 1) := by decide +kernel
theorem dX0_cameIn_41 : decode cX0_cameIn 41 = .ok (.putfield 18, 3) := by decide +kernel
theorem dX0_cameIn_44 : decode cX0_cameIn 44 = .ok (.aload_n 0, 1) := by decide +kernel
theorem dX0_cameIn_45 : decode cX0_cameIn 45 = .ok (.dup, 1) := by decide +kernel
theorem dX0_cameIn_46 : decode cX0_cameIn 46 = .ok (.getfield 22, 3) := by decide +kernel
theorem dX0_cameIn_49 : decode cX0_cameIn 49 = .ok (.iconst 1, 1) := by decide +kernel
theorem dX0_cameIn_50 : decode cX0_cameIn 50 = .ok (.iadd, 1) := by decide +kernel
theorem dX0_cameIn_51 : decode cX0_cameIn 51 = .ok (.putfield 22, 3) := by decide +kernel
theorem dX0_cameIn_54 : decode cX0_cameIn 54 = .ok (.return_, 1) := by decide +kernel
theorem dX0_wentOut_0 : decode cX0_wentOut 0 = .ok (.aload_n 0, 1) := by decide +kernel
theorem dX0_wentOut_1 : decode cX0_wentOut 1 = .ok (.iload_n 1, 1) := by decide +kernel
theorem dX0_wentOut_2 : decode cX0_wentOut 2 = .ok (.invokevirtual 25, 3) := by decide +kernel
theorem dX0_wentOut_5 : decode cX0_wentOut 5 = .ok (.istore_n 2, 1) := by decide +kernel
theorem dX0_wentOut_6 : decode cX0_wentOut 6 = .ok (.iload_n 2, 1) := by decide +kernel
theorem dX0_wentOut_7 : decode cX0_wentOut 7 = .ok (.iconst (-1), 1) := by decide +kernel
theorem dX0_wentOut_8 : decode cX0_wentOut 8 = .ok (.if_icmp .ne 4, 3) := by decide +kernel
theorem dX0_wentOut_11 : decode cX0_wentOut 11 = .ok (.return_, 1) := by decide +kernel
theorem dX0_wentOut_12 : decode cX0_wentOut 12 = .ok (.aload_n 0, 1) := by decide +kernel
theorem dX0_wentOut_13 : decode cX0_wentOut 13 = .ok (.dup, 1) := by decide +kernel
theorem dX0_wentOut_14 : decode cX0_wentOut 14 = .ok (.getfield 18, 3) := by decide +kernel
theorem dX0_wentOut_17 : decode cX0_wentOut 17 = .ok (.iconst 1, 1) := by decide +kernel
theorem dX0_wentOut_18 : decode cX0_wentOut 18 = .ok (.isub, 1) := by decide +kernel
theorem dX0_wentOut_19 : decode cX0_wentOut 19 = .ok (.putfield 18, 3) := by decide +kernel
theorem dX0_wentOut_22 : decode cX0_wentOut 22 = .ok (.aload_n 0, 1) := by decide +kernel
theorem dX0_wentOut_23 : decode cX0_wentOut 23 = .ok (.getfield 9, 3) := by decide +kernel
theorem dX0_wentOut_26 : decode cX0_wentOut 26 = .ok (.iload_n 2, 1) := by decide +kernel
theorem dX0_wentOut_27 : decode cX0_wentOut 27 = .ok (.aload_n 0, 1) := by decide +kernel
theorem dX0_wentOut_28 : decode cX0_wentOut 28 = .ok (.getfield 9, 3) := by decide +kernel
theorem dX0_wentOut_31 : decode cX0_wentOut 31 = .ok (.aload_n 0, 1) := by decide +kernel
theorem dX0_wentOut_32 : decode cX0_wentOut 32 = .ok (.getfield 18, 3) := by decide +kernel
theorem dX0_wentOut_35 : decode cX0_wentOut 35 = .ok (.iaload, 1) := by decide +kernel
theorem dX0_wentOut_36 : decode cX0_wentOut 36 = .ok (.iastore, 1) := by decide +kernel
theorem dX0_wentOut_37 : decode cX0_wentOut 37 = .ok (.aload_n 0, 1) := by decide +kernel
theorem dX0_wentOut_38 : decode cX0_wentOut 38 = .ok (.getfield 15, 3) := by decide +kernel
theorem dX0_wentOut_41 : decode cX0_wentOut 41 = .ok (.iload_n 2, 1) := by decide +kernel
theorem dX0_wentOut_42 : decode cX0_wentOut 42 = .ok (.aload_n 0, 1) := by decide +kernel
theorem dX0_wentOut_43 : decode cX0_wentOut 43 = .ok (.getfield 15, 3) := by decide +kernel
theorem dX0_wentOut_46 : decode cX0_wentOut 46 = .ok (.aload_n 0, 1) := by decide +kernel
theorem dX0_wentOut_47 : decode cX0_wentOut 47 = .ok (.getfield 18, 3) := by decide +kernel
theorem dX0_wentOut_50 : decode cX0_wentOut 50 = .ok (.iaload, 1) := by decide +kernel
theorem dX0_wentOut_51 : decode cX0_wentOut 51 = .ok (.iastore, 1) := by decide +kernel
theorem dX0_wentOut_52 : decode cX0_wentOut 52 = .ok (.return_, 1) := by decide +kernel
theorem dX0_allWentOut_0 : decode cX0_allWentOut 0 = .ok (.aload_n 0, 1) := by decide +kernel
theorem dX0_allWentOut_1 : decode cX0_allWentOut 1 = .ok (.iconst 0, 1) := by decide +kernel
theorem dX0_allWentOut_2 : decode cX0_allWentOut 2 = .ok (.putfield 18, 3) := by decide +kernel
theorem dX0_allWentOut_5 : decode cX0_allWentOut 5 = .ok (.return_, 1) := by decide +kernel
theorem dX0_tellOf_0 : decode cX0_tellOf 0 = .ok (.aload_n 1, 1) := by decide +kernel
theorem dX0_tellOf_1 : decode cX0_tellOf 1 = .ok (.getfield 29, 3) := by decide +kernel
theorem dX0_tellOf_4 : decode cX0_tellOf 4 = .ok (.aload_n 0, 1) := by decide +kernel
theorem dX0_tellOf_5 : decode cX0_tellOf 5 = .ok (.getfield 18, 3) := by decide +kernel
theorem dX0_tellOf_8 : decode cX0_tellOf 8 = .ok (.if_icmp .eq 5, 3) := by decide +kernel
theorem dX0_tellOf_11 : decode cX0_tellOf 11 = .ok (.iconst 0, 1) := by decide +kernel
theorem dX0_tellOf_12 : decode cX0_tellOf 12 = .ok (.ireturn, 1) := by decide +kernel
theorem dX0_tellOf_13 : decode cX0_tellOf 13 = .ok (.iconst (-1), 1) := by decide +kernel
theorem dX0_tellOf_14 : decode cX0_tellOf 14 = .ok (.istore_n 2, 1) := by decide +kernel
theorem dX0_tellOf_15 : decode cX0_tellOf 15 = .ok (.iconst 0, 1) := by decide +kernel
theorem dX0_tellOf_16 : decode cX0_tellOf 16 = .ok (.istore_n 3, 1) := by decide +kernel
theorem dX0_tellOf_17 : decode cX0_tellOf 17 = .ok (.iload_n 3, 1) := by decide +kernel
theorem dX0_tellOf_18 : decode cX0_tellOf 18 = .ok (.aload_n 1, 1) := by decide +kernel
theorem dX0_tellOf_19 : decode cX0_tellOf 19 = .ok (.getfield 29, 3) := by decide +kernel
theorem dX0_tellOf_22 : decode cX0_tellOf 22 = .ok (.if_icmp .ge 47, 3) := by decide +kernel
theorem dX0_tellOf_25 : decode cX0_tellOf 25 = .ok (.aload_n 0, 1) := by decide +kernel
theorem dX0_tellOf_26 : decode cX0_tellOf 26 = .ok (.aload_n 1, 1) := by decide +kernel
theorem dX0_tellOf_27 : decode cX0_tellOf 27 = .ok (.iload_n 3, 1) := by decide +kernel
theorem dX0_tellOf_28 : decode cX0_tellOf 28 = .ok (.invokevirtual 32, 3) := by decide +kernel
theorem dX0_tellOf_31 : decode cX0_tellOf 31 = .ok (.invokevirtual 25, 3) := by decide +kernel
theorem dX0_tellOf_34 : decode cX0_tellOf 34 = .ok (.istore 4, 2) := by decide +kernel
theorem dX0_tellOf_36 : decode cX0_tellOf 36 = .ok (.iload 4, 2) := by decide +kernel
theorem dX0_tellOf_38 : decode cX0_tellOf 38 = .ok (.iconst (-1), 1) := by decide +kernel
theorem dX0_tellOf_39 : decode cX0_tellOf 39 = .ok (.if_icmp .eq 14, 3) := by decide +kernel
theorem dX0_tellOf_42 : decode cX0_tellOf 42 = .ok (.aload_n 0, 1) := by decide +kernel
theorem dX0_tellOf_43 : decode cX0_tellOf 43 = .ok (.getfield 15, 3) := by decide +kernel
theorem dX0_tellOf_46 : decode cX0_tellOf 46 = .ok (.iload 4, 2) := by decide +kernel
theorem dX0_tellOf_48 : decode cX0_tellOf 48 = .ok (.iaload, 1) := by decide +kernel
theorem dX0_tellOf_49 : decode cX0_tellOf 49 = .ok (.iload_n 2, 1) := by decide +kernel
theorem dX0_tellOf_50 : decode cX0_tellOf 50 = .ok (.if_icmp .gt 5, 3) := by decide +kernel
theorem dX0_tellOf_53 : decode cX0_tellOf 53 = .ok (.iconst 0, 1) := by decide +kernel
theorem dX0_tellOf_54 : decode cX0_tellOf 54 = .ok (.ireturn, 1) := by decide +kernel
theorem dX0_tellOf_55 : decode cX0_tellOf 55 = .ok (.aload_n 0, 1) := by decide +kernel
theorem dX0_tellOf_56 : decode cX0_tellOf 56 = .ok (.getfield 15, 3) := by decide +kernel
theorem dX0_tellOf_59 : decode cX0_tellOf 59 = .ok (.iload 4, 2) := by decide +kernel
theorem dX0_tellOf_61 : decode cX0_tellOf 61 = .ok (.iaload, 1) := by decide +kernel
theorem dX0_tellOf_62 : decode cX0_tellOf 62 = .ok (.istore_n 2, 1) := by decide +kernel
theorem dX0_tellOf_63 : decode cX0_tellOf 63 = .ok (.iinc 3 1, 3) := by decide +kernel
theorem dX0_tellOf_66 : decode cX0_tellOf 66 = .ok (.goto (-49), 3) := by decide +kernel
theorem dX0_tellOf_69 : decode cX0_tellOf 69 = .ok (.iconst 1, 1) := by decide +kernel
theorem dX0_tellOf_70 : decode cX0_tellOf 70 = .ok (.ireturn, 1) := by decide +kernel
theorem dX0_indexOfKey_0 : decode cX0_indexOfKey 0 = .ok (.iconst 0, 1) := by decide +kernel
theorem dX0_indexOfKey_1 : decode cX0_indexOfKey 1 = .ok (.istore_n 2, 1) := by decide +kernel
theorem dX0_indexOfKey_2 : decode cX0_indexOfKey 2 = .ok (.iload_n 2, 1) := by decide +kernel
theorem dX0_indexOfKey_3 : decode cX0_indexOfKey 3 = .ok (.aload_n 0, 1) := by decide +kernel
theorem dX0_indexOfKey_4 : decode cX0_indexOfKey 4 = .ok (.getfield 18, 3) := by decide +kernel
theorem dX0_indexOfKey_7 : decode cX0_indexOfKey 7 = .ok (.if_icmp .ge 21, 3) := by decide +kernel
theorem dX0_indexOfKey_10 : decode cX0_indexOfKey 10 = .ok (.aload_n 0, 1) := by decide +kernel
theorem dX0_indexOfKey_11 : decode cX0_indexOfKey 11 = .ok (.getfield 9, 3) := by decide +kernel
theorem dX0_indexOfKey_14 : decode cX0_indexOfKey 14 = .ok (.iload_n 2, 1) := by decide +kernel
theorem dX0_indexOfKey_15 : decode cX0_indexOfKey 15 = .ok (.iaload, 1) := by decide +kernel
theorem dX0_indexOfKey_16 : decode cX0_indexOfKey 16 = .ok (.iload_n 1, 1) := by decide +kernel
theorem dX0_indexOfKey_17 : decode cX0_indexOfKey 17 = .ok (.if_icmp .ne 5, 3) := by decide +kernel
theorem dX0_indexOfKey_20 : decode cX0_indexOfKey 20 = .ok (.iload_n 2, 1) := by decide +kernel
theorem dX0_indexOfKey_21 : decode cX0_indexOfKey 21 = .ok (.ireturn, 1) := by decide +kernel
theorem dX0_indexOfKey_22 : decode cX0_indexOfKey 22 = .ok (.iinc 2 1, 3) := by decide +kernel
theorem dX0_indexOfKey_25 : decode cX0_indexOfKey 25 = .ok (.goto (-23), 3) := by decide +kernel
theorem dX0_indexOfKey_28 : decode cX0_indexOfKey 28 = .ok (.iconst (-1), 1) := by decide +kernel
theorem dX0_indexOfKey_29 : decode cX0_indexOfKey 29 = .ok (.ireturn, 1) := by decide +kernel
theorem dX1_init_0 : decode cX1_init 0 = .ok (.aload_n 0, 1) := by decide +kernel
theorem dX1_init_1 : decode cX1_init 1 = .ok (.invokespecial 3, 3) := by decide +kernel
theorem dX1_init_4 : decode cX1_init 4 = .ok (.aload_n 0, 1) := by decide +kernel
theorem dX1_init_5 : decode cX1_init 5 = .ok (.sipush 200, 3) := by decide +kernel
theorem dX1_init_8 : decode cX1_init 8 = .ok (.newarray .int, 2) := by decide +kernel
theorem dX1_init_10 : decode cX1_init 10 = .ok (.putfield 9, 3) := by decide +kernel
theorem dX1_init_13 : decode cX1_init 13 = .ok (.aload_n 0, 1) := by decide +kernel
theorem dX1_init_14 : decode cX1_init 14 = .ok (.sipush 200, 3) := by decide +kernel
theorem dX1_init_17 : decode cX1_init 17 = .ok (.newarray .int, 2) := by decide +kernel
theorem dX1_init_19 : decode cX1_init 19 = .ok (.putfield 15, 3) := by decide +kernel
theorem dX1_init_22 : decode cX1_init 22 = .ok (.aload_n 0, 1) := by decide +kernel
theorem dX1_init_23 : decode cX1_init 23 = .ok (.new 18, 3) := by decide +kernel
theorem dX1_init_26 : decode cX1_init 26 = .ok (.dup, 1) := by decide +kernel
theorem dX1_init_27 : decode cX1_init 27 = .ok (.invokespecial 20, 3) := by decide +kernel
theorem dX1_init_30 : decode cX1_init 30 = .ok (.putfield 21, 3) := by decide +kernel
theorem dX1_init_33 : decode cX1_init 33 = .ok (.aload_n 0, 1) := by decide +kernel
theorem dX1_init_34 : decode cX1_init 34 = .ok (.iload_n 1, 1) := by decide +kernel
theorem dX1_init_35 : decode cX1_init 35 = .ok (.putfield 25, 3) := by decide +kernel
theorem dX1_init_38 : decode cX1_init 38 = .ok (.aload_n 0, 1) := by decide +kernel
theorem dX1_init_39 : decode cX1_init 39 = .ok (.iload_n 2, 1) := by decide +kernel
theorem dX1_init_40 : decode cX1_init 40 = .ok (.putfield 29, 3) := by decide +kernel
theorem dX1_init_43 : decode cX1_init 43 = .ok (.return_, 1) := by decide +kernel
theorem dX1_reaches_0 : decode cX1_reaches 0 = .ok (.iload_n 1, 1) := by decide +kernel
theorem dX1_reaches_1 : decode cX1_reaches 1 = .ok (.ifCond .lt 15, 3) := by decide +kernel
theorem dX1_reaches_4 : decode cX1_reaches 4 = .ok (.iload_n 1, 1) := by decide +kernel
theorem dX1_reaches_5 : decode cX1_reaches 5 = .ok (.aload_n 0, 1) := by decide +kernel
theorem dX1_reaches_6 : decode cX1_reaches 6 = .ok (.getfield 33, 3) := by decide +kernel
theorem dX1_reaches_9 : decode cX1_reaches 9 = .ok (.if_icmp .ge 7, 3) := by decide +kernel
theorem dX1_reaches_12 : decode cX1_reaches 12 = .ok (.iconst 1, 1) := by decide +kernel
theorem dX1_reaches_13 : decode cX1_reaches 13 = .ok (.goto 4, 3) := by decide +kernel
theorem dX1_reaches_16 : decode cX1_reaches 16 = .ok (.iconst 0, 1) := by decide +kernel
theorem dX1_reaches_17 : decode cX1_reaches 17 = .ok (.ireturn, 1) := by decide +kernel
theorem dX1_find_0 : decode cX1_find 0 = .ok (.iconst 0, 1) := by decide +kernel
theorem dX1_find_1 : decode cX1_find 1 = .ok (.istore_n 2, 1) := by decide +kernel
theorem dX1_find_2 : decode cX1_find 2 = .ok (.iload_n 2, 1) := by decide +kernel
theorem dX1_find_3 : decode cX1_find 3 = .ok (.aload_n 0, 1) := by decide +kernel
theorem dX1_find_4 : decode cX1_find 4 = .ok (.getfield 33, 3) := by decide +kernel
theorem dX1_find_7 : decode cX1_find 7 = .ok (.if_icmp .ge 21, 3) := by decide +kernel
theorem dX1_find_10 : decode cX1_find 10 = .ok (.aload_n 0, 1) := by decide +kernel
theorem dX1_find_11 : decode cX1_find 11 = .ok (.getfield 9, 3) := by decide +kernel
theorem dX1_find_14 : decode cX1_find 14 = .ok (.iload_n 2, 1) := by decide +kernel
theorem dX1_find_15 : decode cX1_find 15 = .ok (.iaload, 1) := by decide +kernel
theorem dX1_find_16 : decode cX1_find 16 = .ok (.iload_n 1, 1) := by decide +kernel
theorem dX1_find_17 : decode cX1_find 17 = .ok (.if_icmp .ne 5, 3) := by decide +kernel
theorem dX1_find_20 : decode cX1_find 20 = .ok (.iload_n 2, 1) := by decide +kernel
theorem dX1_find_21 : decode cX1_find 21 = .ok (.ireturn, 1) := by decide +kernel
theorem dX1_find_22 : decode cX1_find 22 = .ok (.iinc 2 1, 3) := by decide +kernel
theorem dX1_find_25 : decode cX1_find 25 = .ok (.goto (-23), 3) := by decide +kernel
theorem dX1_find_28 : decode cX1_find 28 = .ok (.iconst (-1), 1) := by decide +kernel
theorem dX1_find_29 : decode cX1_find 29 = .ok (.ireturn, 1) := by decide +kernel
theorem dX1_keyOn_0 : decode cX1_keyOn 0 = .ok (.aload_n 0, 1) := by decide +kernel
theorem dX1_keyOn_1 : decode cX1_keyOn 1 = .ok (.iload_n 1, 1) := by decide +kernel
theorem dX1_keyOn_2 : decode cX1_keyOn 2 = .ok (.invokevirtual 36, 3) := by decide +kernel
theorem dX1_keyOn_5 : decode cX1_keyOn 5 = .ok (.ifCond .eq 12, 3) := by decide +kernel
theorem dX1_keyOn_8 : decode cX1_keyOn 8 = .ok (.aload_n 0, 1) := by decide +kernel
theorem dX1_keyOn_9 : decode cX1_keyOn 9 = .ok (.getfield 9, 3) := by decide +kernel
theorem dX1_keyOn_12 : decode cX1_keyOn 12 = .ok (.iload_n 1, 1) := by decide +kernel
theorem dX1_keyOn_13 : decode cX1_keyOn 13 = .ok (.iaload, 1) := by decide +kernel
theorem dX1_keyOn_14 : decode cX1_keyOn 14 = .ok (.goto 4, 3) := by decide +kernel
theorem dX1_keyOn_17 : decode cX1_keyOn 17 = .ok (.iconst 0, 1) := by decide +kernel
theorem dX1_keyOn_18 : decode cX1_keyOn 18 = .ok (.ireturn, 1) := by decide +kernel
theorem dX1_valueOn_0 : decode cX1_valueOn 0 = .ok (.aload_n 0, 1) := by decide +kernel
theorem dX1_valueOn_1 : decode cX1_valueOn 1 = .ok (.iload_n 1, 1) := by decide +kernel
theorem dX1_valueOn_2 : decode cX1_valueOn 2 = .ok (.invokevirtual 36, 3) := by decide +kernel
theorem dX1_valueOn_5 : decode cX1_valueOn 5 = .ok (.ifCond .eq 12, 3) := by decide +kernel
theorem dX1_valueOn_8 : decode cX1_valueOn 8 = .ok (.aload_n 0, 1) := by decide +kernel
theorem dX1_valueOn_9 : decode cX1_valueOn 9 = .ok (.getfield 15, 3) := by decide +kernel
theorem dX1_valueOn_12 : decode cX1_valueOn 12 = .ok (.iload_n 1, 1) := by decide +kernel
theorem dX1_valueOn_13 : decode cX1_valueOn 13 = .ok (.iaload, 1) := by decide +kernel
theorem dX1_valueOn_14 : decode cX1_valueOn 14 = .ok (.goto 4, 3) := by decide +kernel
theorem dX1_valueOn_17 : decode cX1_valueOn 17 = .ok (.iconst 0, 1) := by decide +kernel
theorem dX1_valueOn_18 : decode cX1_valueOn 18 = .ok (.ireturn, 1) := by decide +kernel
theorem dX1_holdsValue_0 : decode cX1_holdsValue 0 = .ok (.iconst 0, 1) := by decide +kernel
theorem dX1_holdsValue_1 : decode cX1_holdsValue 1 = .ok (.istore_n 2, 1) := by decide +kernel
theorem dX1_holdsValue_2 : decode cX1_holdsValue 2 = .ok (.iload_n 2, 1) := by decide +kernel
theorem dX1_holdsValue_3 : decode cX1_holdsValue 3 = .ok (.aload_n 0, 1) := by decide +kernel
theorem dX1_holdsValue_4 : decode cX1_holdsValue 4 = .ok (.getfield 33, 3) := by decide +kernel
theorem dX1_holdsValue_7 : decode cX1_holdsValue 7 = .ok (.if_icmp .ge 21, 3) := by decide +kernel
theorem dX1_holdsValue_10 : decode cX1_holdsValue 10 = .ok (.aload_n 0, 1) := by decide +kernel
theorem dX1_holdsValue_11 : decode cX1_holdsValue 11 = .ok (.getfield 15, 3) := by decide +kernel
theorem dX1_holdsValue_14 : decode cX1_holdsValue 14 = .ok (.iload_n 2, 1) := by decide +kernel
theorem dX1_holdsValue_15 : decode cX1_holdsValue 15 = .ok (.iaload, 1) := by decide +kernel
theorem dX1_holdsValue_16 : decode cX1_holdsValue 16 = .ok (.iload_n 1, 1) := by decide +kernel
theorem dX1_holdsValue_17 : decode cX1_holdsValue 17 = .ok (.if_icmp .ne 5, 3) := by decide +kernel
theorem dX1_holdsValue_20 : decode cX1_holdsValue 20 = .ok (.iconst 1, 1) := by decide +kernel
theorem dX1_holdsValue_21 : decode cX1_holdsValue 21 = .ok (.ireturn, 1) := by decide +kernel
theorem dX1_holdsValue_22 : decode cX1_holdsValue 22 = .ok (.iinc 2 1, 3) := by decide +kernel
theorem dX1_holdsValue_25 : decode cX1_holdsValue 25 = .ok (.goto (-23), 3) := by decide +kernel
theorem dX1_holdsValue_28 : decode cX1_holdsValue 28 = .ok (.iconst 0, 1) := by decide +kernel
theorem dX1_holdsValue_29 : decode cX1_holdsValue 29 = .ok (.ireturn, 1) := by decide +kernel
theorem dX1_give_0 : decode cX1_give 0 = .ok (.aload_n 0, 1) := by decide +kernel
theorem dX1_give_1 : decode cX1_give 1 = .ok (.iload_n 1, 1) := by decide +kernel
theorem dX1_give_2 : decode cX1_give 2 = .ok (.invokevirtual 36, 3) := by decide +kernel
theorem dX1_give_5 : decode cX1_give 5 = .ok (.ifCond .eq 10, 3) := by decide +kernel
theorem dX1_give_8 : decode cX1_give 8 = .ok (.aload_n 0, 1) := by decide +kernel
theorem dX1_give_9 : decode cX1_give 9 = .ok (.getfield 15, 3) := by decide +kernel
theorem dX1_give_12 : decode cX1_give 12 = .ok (.iload_n 1, 1) := by decide +kernel
theorem dX1_give_13 : decode cX1_give 13 = .ok (.iload_n 2, 1) := by decide +kernel
theorem dX1_give_14 : decode cX1_give 14 = .ok (.iastore, 1) := by decide +kernel
theorem dX1_give_15 : decode cX1_give 15 = .ok (.return_, 1) := by decide +kernel
theorem dX1_enter_0 : decode cX1_enter 0 = .ok (.aload_n 0, 1) := by decide +kernel
theorem dX1_enter_1 : decode cX1_enter 1 = .ok (.getfield 33, 3) := by decide +kernel
theorem dX1_enter_4 : decode cX1_enter 4 = .ok (.sipush 200, 3) := by decide +kernel
theorem dX1_enter_7 : decode cX1_enter 7 = .ok (.if_icmp .lt 4, 3) := by decide +kernel
theorem dX1_enter_10 : decode cX1_enter 10 = .ok (.return_, 1) := by decide +kernel
theorem dX1_enter_11 : decode cX1_enter 11 = .ok (.aload_n 0, 1) := by decide +kernel
theorem dX1_enter_12 : decode cX1_enter 12 = .ok (.getfield 9, 3) := by decide +kernel
theorem dX1_enter_15 : decode cX1_enter 15 = .ok (.aload_n 0, 1) := by decide +kernel
theorem dX1_enter_16 : decode cX1_enter 16 = .ok (.getfield 33, 3) := by decide +kernel
theorem dX1_enter_19 : decode cX1_enter 19 = .ok (.iload_n 1, 1) := by decide +kernel
theorem dX1_enter_20 : decode cX1_enter 20 = .ok (.iastore, 1) := by decide +kernel
theorem dX1_enter_21 : decode cX1_enter 21 = .ok (.aload_n 0, 1) := by decide +kernel
theorem dX1_enter_22 : decode cX1_enter 22 = .ok (.getfield 15, 3) := by decide +kernel
theorem dX1_enter_25 : decode cX1_enter 25 = .ok (.aload_n 0, 1) := by decide +kernel
theorem dX1_enter_26 : decode cX1_enter 26 = .ok (.getfield 33, 3) := by decide +kernel
theorem dX1_enter_29 : decode cX1_enter 29 = .ok (.iload_n 2, 1) := by decide +kernel
theorem dX1_enter_30 : decode cX1_enter 30 = .ok (.iastore, 1) := by decide +kernel
theorem dX1_enter_31 : decode cX1_enter 31 = .ok (.aload_n 0, 1) := by decide +kernel
theorem dX1_enter_32 : decode cX1_enter 32 = .ok (.dup, 1) := by decide +kernel
theorem dX1_enter_33 : decode cX1_enter 33 = .ok (.getfield 33, 3) := by decide +kernel
theorem dX1_enter_36 : decode cX1_enter 36 = .ok (.iconst 1, 1) := by decide +kernel
theorem dX1_enter_37 : decode cX1_enter 37 = .ok (.iadd, 1) := by decide +kernel
theorem dX1_enter_38 : decode cX1_enter 38 = .ok (.putfield 33, 3) := by decide +kernel
theorem dX1_enter_41 : decode cX1_enter 41 = .ok (.aload_n 0, 1) := by decide +kernel
theorem dX1_enter_42 : decode cX1_enter 42 = .ok (.getfield 21, 3) := by decide +kernel
theorem dX1_enter_45 : decode cX1_enter 45 = .ok (.iload_n 1, 1) := by decide +kernel
theorem dX1_enter_46 : decode cX1_enter 46 = .ok (.invokevirtual 40, 3) := by decide +kernel
theorem dX1_enter_49 : decode cX1_enter 49 = .ok (.aload_n 0, 1) := by decide +kernel
theorem dX1_enter_50 : decode cX1_enter 50 = .ok (.getfield 29, 3) := by decide +kernel
theorem dX1_enter_53 : decode cX1_enter 53 = .ok (.ifCond .eq 19, 3) := by decide +kernel
theorem dX1_enter_56 : decode cX1_enter 56 = .ok (.aload_n 0, 1) := by decide +kernel
theorem dX1_enter_57 : decode cX1_enter 57 = .ok (.getfield 33, 3) := by decide +kernel
theorem dX1_enter_60 : decode cX1_enter 60 = .ok (.aload_n 0, 1) := by decide +kernel
theorem dX1_enter_61 : decode cX1_enter 61 = .ok (.getfield 25, 3) := by decide +kernel
theorem dX1_enter_64 : decode cX1_enter 64 = .ok (.if_icmp .le 8, 3) := by decide +kernel
theorem dX1_enter_67 : decode cX1_enter 67 = .ok (.aload_n 0, 1) := by decide +kernel
theorem dX1_enter_68 : decode cX1_enter 68 = .ok (.iconst 0, 1) := by decide +kernel
theorem dX1_enter_69 : decode cX1_enter 69 = .ok (.invokevirtual 44, 3) := by decide +kernel
theorem dX1_enter_72 : decode cX1_enter 72 = .ok (.return_, 1) := by decide +kernel
theorem dX1_store_0 : decode cX1_store 0 = .ok (.aload_n 0, 1) := by decide +kernel
theorem dX1_store_1 : decode cX1_store 1 = .ok (.iload_n 1, 1) := by decide +kernel
theorem dX1_store_2 : decode cX1_store 2 = .ok (.invokevirtual 47, 3) := by decide +kernel
theorem dX1_store_5 : decode cX1_store 5 = .ok (.istore_n 3, 1) := by decide +kernel
theorem dX1_store_6 : decode cX1_store 6 = .ok (.iload_n 3, 1) := by decide +kernel
theorem dX1_store_7 : decode cX1_store 7 = .ok (.iconst (-1), 1) := by decide +kernel
theorem dX1_store_8 : decode cX1_store 8 = .ok (.if_icmp .ne 11, 3) := by decide +kernel
theorem dX1_store_11 : decode cX1_store 11 = .ok (.aload_n 0, 1) := by decide +kernel
theorem dX1_store_12 : decode cX1_store 12 = .ok (.iload_n 1, 1) := by decide +kernel
theorem dX1_store_13 : decode cX1_store 13 = .ok (.iload_n 2, 1) := by decide +kernel
theorem dX1_store_14 : decode cX1_store 14 = .ok (.invokevirtual 51, 3) := by decide +kernel
theorem dX1_store_17 : decode cX1_store 17 = .ok (.iconst 0, 1) := by decide +kernel
theorem dX1_store_18 : decode cX1_store 18 = .ok (.ireturn, 1) := by decide +kernel
theorem dX1_store_19 : decode cX1_store 19 = .ok (.aload_n 0, 1) := by decide +kernel
theorem dX1_store_20 : decode cX1_store 20 = .ok (.iload_n 3, 1) := by decide +kernel
theorem dX1_store_21 : decode cX1_store 21 = .ok (.iload_n 2, 1) := by decide +kernel
theorem dX1_store_22 : decode cX1_store 22 = .ok (.invokevirtual 55, 3) := by decide +kernel
theorem dX1_store_25 : decode cX1_store 25 = .ok (.iconst 1, 1) := by decide +kernel
theorem dX1_store_26 : decode cX1_store 26 = .ok (.ireturn, 1) := by decide +kernel
theorem dX1_leave_0 : decode cX1_leave 0 = .ok (.aload_n 0, 1) := by decide +kernel
theorem dX1_leave_1 : decode cX1_leave 1 = .ok (.iload_n 1, 1) := by decide +kernel
theorem dX1_leave_2 : decode cX1_leave 2 = .ok (.invokevirtual 36, 3) := by decide +kernel
theorem dX1_leave_5 : decode cX1_leave 5 = .ok (.ifCond .ne 4, 3) := by decide +kernel
theorem dX1_leave_8 : decode cX1_leave 8 = .ok (.return_, 1) := by decide +kernel
theorem dX1_leave_9 : decode cX1_leave 9 = .ok (.aload_n 0, 1) := by decide +kernel
theorem dX1_leave_10 : decode cX1_leave 10 = .ok (.getfield 21, 3) := by decide +kernel
theorem dX1_leave_13 : decode cX1_leave 13 = .ok (.aload_n 0, 1) := by decide +kernel
theorem dX1_leave_14 : decode cX1_leave 14 = .ok (.getfield 9, 3) := by decide +kernel
theorem dX1_leave_17 : decode cX1_leave 17 = .ok (.iload_n 1, 1) := by decide +kernel
theorem dX1_leave_18 : decode cX1_leave 18 = .ok (.iaload, 1) := by decide +kernel
theorem dX1_leave_19 : decode cX1_leave 19 = .ok (.invokevirtual 58, 3) := by decide +kernel
theorem dX1_leave_22 : decode cX1_leave 22 = .ok (.iload_n 1, 1) := by decide +kernel
theorem dX1_leave_23 : decode cX1_leave 23 = .ok (.iconst 1, 1) := by decide +kernel
theorem dX1_leave_24 : decode cX1_leave 24 = .ok (.iadd, 1) := by decide +kernel
theorem dX1_leave_25 : decode cX1_leave 25 = .ok (.istore_n 2, 1) := by decide +kernel
theorem dX1_leave_26 : decode cX1_leave 26 = .ok (.iload_n 2, 1) := by decide +kernel
theorem dX1_leave_27 : decode cX1_leave 27 = .ok (.aload_n 0, 1) := by decide +kernel
theorem dX1_leave_28 : decode cX1_leave 28 = .ok (.getfield 33, 3) := by decide +kernel
theorem dX1_leave_31 : decode cX1_leave 31 = .ok (.if_icmp .ge 37, 3) := by decide +kernel
theorem dX1_leave_34 : decode cX1_leave 34 = .ok (.aload_n 0, 1) := by decide +kernel
theorem dX1_leave_35 : decode cX1_leave 35 = .ok (.getfield 9, 3) := by decide +kernel
theorem dX1_leave_38 : decode cX1_leave 38 = .ok (.iload_n 2, 1) := by decide +kernel
theorem dX1_leave_39 : decode cX1_leave 39 = .ok (.iconst 1, 1) := by decide +kernel
theorem dX1_leave_40 : decode cX1_leave 40 = .ok (.isub, 1) := by decide +kernel
theorem dX1_leave_41 : decode cX1_leave 41 = .ok (.aload_n 0, 1) := by decide +kernel
theorem dX1_leave_42 : decode cX1_leave 42 = .ok (.getfield 9, 3) := by decide +kernel
theorem dX1_leave_45 : decode cX1_leave 45 = .ok (.iload_n 2, 1) := by decide +kernel
theorem dX1_leave_46 : decode cX1_leave 46 = .ok (.iaload, 1) := by decide +kernel
theorem dX1_leave_47 : decode cX1_leave 47 = .ok (.iastore, 1) := by decide +kernel
theorem dX1_leave_48 : decode cX1_leave 48 = .ok (.aload_n 0, 1) := by decide +kernel
theorem dX1_leave_49 : decode cX1_leave 49 = .ok (.getfield 15, 3) := by decide +kernel
theorem dX1_leave_52 : decode cX1_leave 52 = .ok (.iload_n 2, 1) := by decide +kernel
theorem dX1_leave_53 : decode cX1_leave 53 = .ok (.iconst 1, 1) := by decide +kernel
theorem dX1_leave_54 : decode cX1_leave 54 = .ok (.isub, 1) := by decide +kernel
theorem dX1_leave_55 : decode cX1_leave 55 = .ok (.aload_n 0, 1) := by decide +kernel
theorem dX1_leave_56 : decode cX1_leave 56 = .ok (.getfield 15, 3) := by decide +kernel
theorem dX1_leave_59 : decode cX1_leave 59 = .ok (.iload_n 2, 1) := by decide +kernel
theorem dX1_leave_60 : decode cX1_leave 60 = .ok (.iaload, 1) := by decide +kernel
theorem dX1_leave_61 : decode cX1_leave 61 = .ok (.iastore, 1) := by decide +kernel
theorem dX1_leave_62 : decode cX1_leave 62 = .ok (.iinc 2 1, 3) := by decide +kernel
theorem dX1_leave_65 : decode cX1_leave 65 = .ok (.goto (-39), 3) := by decide +kernel
theorem dX1_leave_68 : decode cX1_leave 68 = .ok (.aload_n 0, 1) := by decide +kernel
theorem dX1_leave_69 : decode cX1_leave 69 = .ok (.dup, 1) := by decide +kernel
theorem dX1_leave_70 : decode cX1_leave 70 = .ok (.getfield 33, 3) := by decide +kernel
theorem dX1_leave_73 : decode cX1_leave 73 = .ok (.iconst 1, 1) := by decide +kernel
theorem dX1_leave_74 : decode cX1_leave 74 = .ok (.isub, 1) := by decide +kernel
theorem dX1_leave_75 : decode cX1_leave 75 = .ok (.putfield 33, 3) := by decide +kernel
theorem dX1_leave_78 : decode cX1_leave 78 = .ok (.return_, 1) := by decide +kernel
theorem dX1_empty_0 : decode cX1_empty 0 = .ok (.aload_n 0, 1) := by decide +kernel
theorem dX1_empty_1 : decode cX1_empty 1 = .ok (.getfield 21, 3) := by decide +kernel
theorem dX1_empty_4 : decode cX1_empty 4 = .ok (.invokevirtual 61, 3) := by decide +kernel
theorem dX1_empty_7 : decode cX1_empty 7 = .ok (.aload_n 0, 1) := by decide +kernel
theorem dX1_empty_8 : decode cX1_empty 8 = .ok (.iconst 0, 1) := by decide +kernel
theorem dX1_empty_9 : decode cX1_empty 9 = .ok (.putfield 33, 3) := by decide +kernel
theorem dX1_empty_12 : decode cX1_empty 12 = .ok (.return_, 1) := by decide +kernel
theorem dX1_storeAllOf_0 : decode cX1_storeAllOf 0 = .ok (.iconst 0, 1) := by decide +kernel
theorem dX1_storeAllOf_1 : decode cX1_storeAllOf 1 = .ok (.istore_n 2, 1) := by decide +kernel
theorem dX1_storeAllOf_2 : decode cX1_storeAllOf 2 = .ok (.iload_n 2, 1) := by decide +kernel
theorem dX1_storeAllOf_3 : decode cX1_storeAllOf 3 = .ok (.aload_n 1, 1) := by decide +kernel
theorem dX1_storeAllOf_4 : decode cX1_storeAllOf 4 = .ok (.getfield 33, 3) := by decide +kernel
theorem dX1_storeAllOf_7 : decode cX1_storeAllOf 7 = .ok (.if_icmp .ge 24, 3) := by decide +kernel
theorem dX1_storeAllOf_10 : decode cX1_storeAllOf 10 = .ok (.aload_n 0, 1) := by decide +kernel
theorem dX1_storeAllOf_11 : decode cX1_storeAllOf 11 = .ok (.aload_n 1, 1) := by decide +kernel
theorem dX1_storeAllOf_12 : decode cX1_storeAllOf 12 = .ok (.iload_n 2, 1) := by decide +kernel
theorem dX1_storeAllOf_13 : decode cX1_storeAllOf 13 = .ok (.invokevirtual 64, 3) := by decide +kernel
theorem dX1_storeAllOf_16 : decode cX1_storeAllOf 16 = .ok (.aload_n 1, 1) := by decide +kernel
theorem dX1_storeAllOf_17 : decode cX1_storeAllOf 17 = .ok (.iload_n 2, 1) := by decide +kernel
theorem dX1_storeAllOf_18 : decode cX1_storeAllOf 18 = .ok (.invokevirtual 67, 3) := by decide +kernel
theorem dX1_storeAllOf_21 : decode cX1_storeAllOf 21 = .ok (.invokevirtual 70, 3) := by decide +kernel
theorem dX1_storeAllOf_24 : decode cX1_storeAllOf 24 = .ok (.pop, 1) := by decide +kernel
theorem dX1_storeAllOf_25 : decode cX1_storeAllOf 25 = .ok (.iinc 2 1, 3) := by decide +kernel
theorem dX1_storeAllOf_28 : decode cX1_storeAllOf 28 = .ok (.goto (-26), 3) := by decide +kernel
theorem dX1_storeAllOf_31 : decode cX1_storeAllOf 31 = .ok (.return_, 1) := by decide +kernel
theorem dX1_becomeCopyOf_0 : decode cX1_becomeCopyOf 0 = .ok (.aload_n 0, 1) := by decide +kernel
theorem dX1_becomeCopyOf_1 : decode cX1_becomeCopyOf 1 = .ok (.invokevirtual 74, 3) := by decide +kernel
theorem dX1_becomeCopyOf_4 : decode cX1_becomeCopyOf 4 = .ok (.iconst 0, 1) := by decide +kernel
theorem dX1_becomeCopyOf_5 : decode cX1_becomeCopyOf 5 = .ok (.istore_n 2, 1) := by decide +kernel
theorem dX1_becomeCopyOf_6 : decode cX1_becomeCopyOf 6 = .ok (.iload_n 2, 1) := by decide +kernel
theorem dX1_becomeCopyOf_7 : decode cX1_becomeCopyOf 7 = .ok (.aload_n 1, 1) := by decide +kernel
theorem dX1_becomeCopyOf_8 : decode cX1_becomeCopyOf 8 = .ok (.getfield 33, 3) := by decide +kernel
theorem dX1_becomeCopyOf_11 : decode cX1_becomeCopyOf 11 = .ok (.if_icmp .ge 23, 3) := by decide +kernel
theorem dX1_becomeCopyOf_14 : decode cX1_becomeCopyOf 14 = .ok (.aload_n 0, 1) := by decide +kernel
theorem dX1_becomeCopyOf_15 : decode cX1_becomeCopyOf 15 = .ok (.aload_n 1, 1) := by decide +kernel
theorem dX1_becomeCopyOf_16 : decode cX1_becomeCopyOf 16 = .ok (.iload_n 2, 1) := by decide +kernel
theorem dX1_becomeCopyOf_17 : decode cX1_becomeCopyOf 17 = .ok (.invokevirtual 64, 3) := by decide +kernel
theorem dX1_becomeCopyOf_20 : decode cX1_becomeCopyOf 20 = .ok (.aload_n 1, 1) := by decide +kernel
theorem dX1_becomeCopyOf_21 : decode cX1_becomeCopyOf 21 = .ok (.iload_n 2, 1) := by decide +kernel
theorem dX1_becomeCopyOf_22 : decode cX1_becomeCopyOf 22 = .ok (.invokevirtual 67, 3) := by decide +kernel
theorem dX1_becomeCopyOf_25 : decode cX1_becomeCopyOf 25 = .ok (.invokevirtual 51, 3) := by decide +kernel
theorem dX1_becomeCopyOf_28 : decode cX1_becomeCopyOf 28 = .ok (.iinc 2 1, 3) := by decide +kernel
theorem dX1_becomeCopyOf_31 : decode cX1_becomeCopyOf 31 = .ok (.goto (-25), 3) := by decide +kernel
theorem dX1_becomeCopyOf_34 : decode cX1_becomeCopyOf 34 = .ok (.return_, 1) := by decide +kernel
theorem dX1_countMissingIn_0 : decode cX1_countMissingIn 0 = .ok (.iconst 0, 1) := by decide +kernel
theorem dX1_countMissingIn_1 : decode cX1_countMissingIn 1 = .ok (.istore_n 2, 1) := by decide +kernel
theorem dX1_countMissingIn_2 : decode cX1_countMissingIn 2 = .ok (.iconst 0, 1) := by decide +kernel
theorem dX1_countMissingIn_3 : decode cX1_countMissingIn 3 = .ok (.istore_n 3, 1) := by decide +kernel
theorem dX1_countMissingIn_4 : decode cX1_countMissingIn 4 = .ok (.iload_n 3, 1) := by decide +kernel
theorem dX1_countMissingIn_5 : decode cX1_countMissingIn 5 = .ok (.aload_n 0, 1) := by decide +kernel
theorem dX1_countMissingIn_6 : decode cX1_countMissingIn 6 = .ok (.getfield 33, 3) := by decide +kernel
theorem dX1_countMissingIn_9 : decode cX1_countMissingIn 9 = .ok (.if_icmp .ge 26, 3) := by decide +kernel
theorem dX1_countMissingIn_12 : decode cX1_countMissingIn 12 = .ok (.aload_n 1, 1) := by decide +kernel
theorem dX1_countMissingIn_13 : decode cX1_countMissingIn 13 = .ok (.aload_n 0, 1) := by decide +kernel
theorem dX1_countMissingIn_14 : decode cX1_countMissingIn 14 = .ok (.getfield 9, 3) := by decide +kernel
theorem dX1_countMissingIn_17 : decode cX1_countMissingIn 17 = .ok (.iload_n 3, 1) := by decide +kernel
theorem dX1_countMissingIn_18 : decode cX1_countMissingIn 18 = .ok (.iaload, 1) := by decide +kernel
theorem dX1_countMissingIn_19 : decode cX1_countMissingIn 19 = .ok (.invokevirtual 47, 3) := by decide +kernel
theorem dX1_countMissingIn_22 : decode cX1_countMissingIn 22 = .ok (.iconst (-1), 1) := by decide +kernel
theorem dX1_countMissingIn_23 : decode cX1_countMissingIn 23 = .ok (.if_icmp .ne 6, 3) := by decide +kernel
theorem dX1_countMissingIn_26 : decode cX1_countMissingIn 26 = .ok (.iinc 2 1, 3) := by decide +kernel
theorem dX1_countMissingIn_29 : decode cX1_countMissingIn 29 = .ok (.iinc 3 1, 3) := by decide +kernel
theorem dX1_countMissingIn_32 : decode cX1_countMissingIn 32 = .ok (.goto (-28), 3) := by decide +kernel
theorem dX1_countMissingIn_35 : decode cX1_countMissingIn 35 = .ok (.iload_n 2, 1) := by decide +kernel
theorem dX1_countMissingIn_36 : decode cX1_countMissingIn 36 = .ok (.ireturn, 1) := by decide +kernel
theorem dX1_hasPairsOf_0 : decode cX1_hasPairsOf 0 = .ok (.aload_n 0, 1) := by decide +kernel
theorem dX1_hasPairsOf_1 : decode cX1_hasPairsOf 1 = .ok (.getfield 33, 3) := by decide +kernel
theorem dX1_hasPairsOf_4 : decode cX1_hasPairsOf 4 = .ok (.aload_n 1, 1) := by decide +kernel
theorem dX1_hasPairsOf_5 : decode cX1_hasPairsOf 5 = .ok (.getfield 33, 3) := by decide +kernel
theorem dX1_hasPairsOf_8 : decode cX1_hasPairsOf 8 = .ok (.if_icmp .eq 5, 3) := by decide +kernel
theorem dX1_hasPairsOf_11 : decode cX1_hasPairsOf 11 = .ok (.iconst 0, 1) := by decide +kernel
theorem dX1_hasPairsOf_12 : decode cX1_hasPairsOf 12 = .ok (.ireturn, 1) := by decide +kernel
theorem dX1_hasPairsOf_13 : decode cX1_hasPairsOf 13 = .ok (.iconst 0, 1) := by decide +kernel
theorem dX1_hasPairsOf_14 : decode cX1_hasPairsOf 14 = .ok (.istore_n 2, 1) := by decide +kernel
theorem dX1_hasPairsOf_15 : decode cX1_hasPairsOf 15 = .ok (.iload_n 2, 1) := by decide +kernel
theorem dX1_hasPairsOf_16 : decode cX1_hasPairsOf 16 = .ok (.aload_n 0, 1) := by decide +kernel
theorem dX1_hasPairsOf_17 : decode cX1_hasPairsOf 17 = .ok (.getfield 33, 3) := by decide +kernel
theorem dX1_hasPairsOf_20 : decode cX1_hasPairsOf 20 = .ok (.if_icmp .ge 41, 3) := by decide +kernel
theorem dX1_hasPairsOf_23 : decode cX1_hasPairsOf 23 = .ok (.aload_n 1, 1) := by decide +kernel
theorem dX1_hasPairsOf_24 : decode cX1_hasPairsOf 24 = .ok (.aload_n 0, 1) := by decide +kernel
theorem dX1_hasPairsOf_25 : decode cX1_hasPairsOf 25 = .ok (.getfield 9, 3) := by decide +kernel
theorem dX1_hasPairsOf_28 : decode cX1_hasPairsOf 28 = .ok (.iload_n 2, 1) := by decide +kernel
theorem dX1_hasPairsOf_29 : decode cX1_hasPairsOf 29 = .ok (.iaload, 1) := by decide +kernel
theorem dX1_hasPairsOf_30 : decode cX1_hasPairsOf 30 = .ok (.invokevirtual 47, 3) := by decide +kernel
theorem dX1_hasPairsOf_33 : decode cX1_hasPairsOf 33 = .ok (.istore_n 3, 1) := by decide +kernel
theorem dX1_hasPairsOf_34 : decode cX1_hasPairsOf 34 = .ok (.iload_n 3, 1) := by decide +kernel
theorem dX1_hasPairsOf_35 : decode cX1_hasPairsOf 35 = .ok (.iconst (-1), 1) := by decide +kernel
theorem dX1_hasPairsOf_36 : decode cX1_hasPairsOf 36 = .ok (.if_icmp .eq 17, 3) := by decide +kernel
theorem dX1_hasPairsOf_39 : decode cX1_hasPairsOf 39 = .ok (.aload_n 1, 1) := by decide +kernel
theorem dX1_hasPairsOf_40 : decode cX1_hasPairsOf 40 = .ok (.iload_n 3, 1) := by decide +kernel
theorem dX1_hasPairsOf_41 : decode cX1_hasPairsOf 41 = .ok (.invokevirtual 67, 3) := by decide +kernel
theorem dX1_hasPairsOf_44 : decode cX1_hasPairsOf 44 = .ok (.aload_n 0, 1) := by decide +kernel
theorem dX1_hasPairsOf_45 : decode cX1_hasPairsOf 45 = .ok (.getfield 15, 3) := by decide +kernel
theorem dX1_hasPairsOf_48 : decode cX1_hasPairsOf 48 = .ok (.iload_n 2, 1) := by decide +kernel
theorem dX1_hasPairsOf_49 : decode cX1_hasPairsOf 49 = .ok (.iaload, 1) := by decide +kernel
theorem dX1_hasPairsOf_50 : decode cX1_hasPairsOf 50 = .ok (.if_icmp .eq 5, 3) := by decide +kernel
theorem dX1_hasPairsOf_53 : decode cX1_hasPairsOf 53 = .ok (.iconst 0, 1) := by decide +kernel
theorem dX1_hasPairsOf_54 : decode cX1_hasPairsOf 54 = .ok (.ireturn, 1) := by decide +kernel
theorem dX1_hasPairsOf_55 : decode cX1_hasPairsOf 55 = .ok (.iinc 2 1, 3) := by decide +kernel
theorem dX1_hasPairsOf_58 : decode cX1_hasPairsOf 58 = .ok (.goto (-43), 3) := by decide +kernel
theorem dX1_hasPairsOf_61 : decode cX1_hasPairsOf 61 = .ok (.iconst 1, 1) := by decide +kernel
theorem dX1_hasPairsOf_62 : decode cX1_hasPairsOf 62 = .ok (.ireturn, 1) := by decide +kernel
theorem dX1_hasRowOf_0 : decode cX1_hasRowOf 0 = .ok (.aload_n 0, 1) := by decide +kernel
theorem dX1_hasRowOf_1 : decode cX1_hasRowOf 1 = .ok (.getfield 33, 3) := by decide +kernel
theorem dX1_hasRowOf_4 : decode cX1_hasRowOf 4 = .ok (.aload_n 1, 1) := by decide +kernel
theorem dX1_hasRowOf_5 : decode cX1_hasRowOf 5 = .ok (.getfield 33, 3) := by decide +kernel
theorem dX1_hasRowOf_8 : decode cX1_hasRowOf 8 = .ok (.if_icmp .eq 5, 3) := by decide +kernel
theorem dX1_hasRowOf_11 : decode cX1_hasRowOf 11 = .ok (.iconst 0, 1) := by decide +kernel
theorem dX1_hasRowOf_12 : decode cX1_hasRowOf 12 = .ok (.ireturn, 1) := by decide +kernel
theorem dX1_hasRowOf_13 : decode cX1_hasRowOf 13 = .ok (.iconst 0, 1) := by decide +kernel
theorem dX1_hasRowOf_14 : decode cX1_hasRowOf 14 = .ok (.istore_n 2, 1) := by decide +kernel
theorem dX1_hasRowOf_15 : decode cX1_hasRowOf 15 = .ok (.iload_n 2, 1) := by decide +kernel
theorem dX1_hasRowOf_16 : decode cX1_hasRowOf 16 = .ok (.aload_n 0, 1) := by decide +kernel
theorem dX1_hasRowOf_17 : decode cX1_hasRowOf 17 = .ok (.getfield 33, 3) := by decide +kernel
theorem dX1_hasRowOf_20 : decode cX1_hasRowOf 20 = .ok (.if_icmp .ge 39, 3) := by decide +kernel
theorem dX1_hasRowOf_23 : decode cX1_hasRowOf 23 = .ok (.aload_n 0, 1) := by decide +kernel
theorem dX1_hasRowOf_24 : decode cX1_hasRowOf 24 = .ok (.getfield 9, 3) := by decide +kernel
theorem dX1_hasRowOf_27 : decode cX1_hasRowOf 27 = .ok (.iload_n 2, 1) := by decide +kernel
theorem dX1_hasRowOf_28 : decode cX1_hasRowOf 28 = .ok (.iaload, 1) := by decide +kernel
theorem dX1_hasRowOf_29 : decode cX1_hasRowOf 29 = .ok (.aload_n 1, 1) := by decide +kernel
theorem dX1_hasRowOf_30 : decode cX1_hasRowOf 30 = .ok (.iload_n 2, 1) := by decide +kernel
theorem dX1_hasRowOf_31 : decode cX1_hasRowOf 31 = .ok (.invokevirtual 64, 3) := by decide +kernel
theorem dX1_hasRowOf_34 : decode cX1_hasRowOf 34 = .ok (.if_icmp .ne 17, 3) := by decide +kernel
theorem dX1_hasRowOf_37 : decode cX1_hasRowOf 37 = .ok (.aload_n 0, 1) := by decide +kernel
theorem dX1_hasRowOf_38 : decode cX1_hasRowOf 38 = .ok (.getfield 15, 3) := by decide +kernel
theorem dX1_hasRowOf_41 : decode cX1_hasRowOf 41 = .ok (.iload_n 2, 1) := by decide +kernel
theorem dX1_hasRowOf_42 : decode cX1_hasRowOf 42 = .ok (.iaload, 1) := by decide +kernel
theorem dX1_hasRowOf_43 : decode cX1_hasRowOf 43 = .ok (.aload_n 1, 1) := by decide +kernel
theorem dX1_hasRowOf_44 : decode cX1_hasRowOf 44 = .ok (.iload_n 2, 1) := by decide +kernel
theorem dX1_hasRowOf_45 : decode cX1_hasRowOf 45 = .ok (.invokevirtual 67, 3) := by decide +kernel
theorem dX1_hasRowOf_48 : decode cX1_hasRowOf 48 = .ok (.if_icmp .eq 5, 3) := by decide +kernel
theorem dX1_hasRowOf_51 : decode cX1_hasRowOf 51 = .ok (.iconst 0, 1) := by decide +kernel
theorem dX1_hasRowOf_52 : decode cX1_hasRowOf 52 = .ok (.ireturn, 1) := by decide +kernel
theorem dX1_hasRowOf_53 : decode cX1_hasRowOf 53 = .ok (.iinc 2 1, 3) := by decide +kernel
theorem dX1_hasRowOf_56 : decode cX1_hasRowOf 56 = .ok (.goto (-41), 3) := by decide +kernel
theorem dX1_hasRowOf_59 : decode cX1_hasRowOf 59 = .ok (.iconst 1, 1) := by decide +kernel
theorem dX1_hasRowOf_60 : decode cX1_hasRowOf 60 = .ok (.ireturn, 1) := by decide +kernel
theorem dX1_mixed_0 : decode cX1_mixed 0 = .ok (.iconst 0, 1) := by decide +kernel
theorem dX1_mixed_1 : decode cX1_mixed 1 = .ok (.istore_n 1, 1) := by decide +kernel
theorem dX1_mixed_2 : decode cX1_mixed 2 = .ok (.iconst 0, 1) := by decide +kernel
theorem dX1_mixed_3 : decode cX1_mixed 3 = .ok (.istore_n 2, 1) := by decide +kernel
theorem dX1_mixed_4 : decode cX1_mixed 4 = .ok (.iload_n 2, 1) := by decide +kernel
theorem dX1_mixed_5 : decode cX1_mixed 5 = .ok (.aload_n 0, 1) := by decide +kernel
theorem dX1_mixed_6 : decode cX1_mixed 6 = .ok (.getfield 33, 3) := by decide +kernel
theorem dX1_mixed_9 : decode cX1_mixed 9 = .ok (.if_icmp .ge 25, 3) := by decide +kernel
theorem dX1_mixed_12 : decode cX1_mixed 12 = .ok (.iload_n 1, 1) := by decide +kernel
theorem dX1_mixed_13 : decode cX1_mixed 13 = .ok (.aload_n 0, 1) := by decide +kernel
theorem dX1_mixed_14 : decode cX1_mixed 14 = .ok (.getfield 9, 3) := by decide +kernel
theorem dX1_mixed_17 : decode cX1_mixed 17 = .ok (.iload_n 2, 1) := by decide +kernel
theorem dX1_mixed_18 : decode cX1_mixed 18 = .ok (.iaload, 1) := by decide +kernel
theorem dX1_mixed_19 : decode cX1_mixed 19 = .ok (.aload_n 0, 1) := by decide +kernel
theorem dX1_mixed_20 : decode cX1_mixed 20 = .ok (.getfield 15, 3) := by decide +kernel
theorem dX1_mixed_23 : decode cX1_mixed 23 = .ok (.iload_n 2, 1) := by decide +kernel
theorem dX1_mixed_24 : decode cX1_mixed 24 = .ok (.iaload, 1) := by decide +kernel
theorem dX1_mixed_25 : decode cX1_mixed 25 = .ok (.ixor, 1) := by decide +kernel
theorem dX1_mixed_26 : decode cX1_mixed 26 = .ok (.iadd, 1) := by decide +kernel
theorem dX1_mixed_27 : decode cX1_mixed 27 = .ok (.istore_n 1, 1) := by decide +kernel
theorem dX1_mixed_28 : decode cX1_mixed 28 = .ok (.iinc 2 1, 3) := by decide +kernel
theorem dX1_mixed_31 : decode cX1_mixed 31 = .ok (.goto (-27), 3) := by decide +kernel
theorem dX1_mixed_34 : decode cX1_mixed 34 = .ok (.iload_n 1, 1) := by decide +kernel
theorem dX1_mixed_35 : decode cX1_mixed 35 = .ok (.ireturn, 1) := by decide +kernel
theorem dX2_init_0 : decode cX2_init 0 = .ok (.aload_n 0, 1) := by decide +kernel
theorem dX2_init_1 : decode cX2_init 1 = .ok (.invokespecial 3, 3) := by decide +kernel
theorem dX2_init_4 : decode cX2_init 4 = .ok (.aload_n 0, 1) := by decide +kernel
theorem dX2_init_5 : decode cX2_init 5 = .ok (.iconst (-1), 1) := by decide +kernel
theorem dX2_init_6 : decode cX2_init 6 = .ok (.putfield 9, 3) := by decide +kernel
theorem dX2_init_9 : decode cX2_init 9 = .ok (.aload_n 0, 1) := by decide +kernel
theorem dX2_init_10 : decode cX2_init 10 = .ok (.iconst 0, 1) := by decide +kernel
theorem dX2_init_11 : decode cX2_init 11 = .ok (.putfield 15, 3) := by decide +kernel
theorem dX2_init_14 : decode cX2_init 14 = .ok (.return_, 1) := by decide +kernel
theorem dX2_openAt_0 : decode cX2_openAt 0 = .ok (.aload_n 0, 1) := by decide +kernel
theorem dX2_openAt_1 : decode cX2_openAt 1 = .ok (.iload_n 1, 1) := by decide +kernel
theorem dX2_openAt_2 : decode cX2_openAt 2 = .ok (.putfield 9, 3) := by decide +kernel
theorem dX2_openAt_5 : decode cX2_openAt 5 = .ok (.aload_n 0, 1) := by decide +kernel
theorem dX2_openAt_6 : decode cX2_openAt 6 = .ok (.iload_n 2, 1) := by decide +kernel
theorem dX2_openAt_7 : decode cX2_openAt 7 = .ok (.putfield 15, 3) := by decide +kernel
theorem dX2_openAt_10 : decode cX2_openAt 10 = .ok (.aload_n 0, 1) := by decide +kernel
theorem dX2_openAt_11 : decode cX2_openAt 11 = .ok (.iconst 0, 1) := by decide +kernel
theorem dX2_openAt_12 : decode cX2_openAt 12 = .ok (.putfield 18, 3) := by decide +kernel
theorem dX2_openAt_15 : decode cX2_openAt 15 = .ok (.aload_n 0, 1) := by decide +kernel
theorem dX2_openAt_16 : decode cX2_openAt 16 = .ok (.iconst 0, 1) := by decide +kernel
theorem dX2_openAt_17 : decode cX2_openAt 17 = .ok (.putfield 21, 3) := by decide +kernel
theorem dX2_openAt_20 : decode cX2_openAt 20 = .ok (.return_, 1) := by decide +kernel
theorem dX2_close_0 : decode cX2_close 0 = .ok (.aload_n 0, 1) := by decide +kernel
theorem dX2_close_1 : decode cX2_close 1 = .ok (.iconst (-1), 1) := by decide +kernel
theorem dX2_close_2 : decode cX2_close 2 = .ok (.putfield 9, 3) := by decide +kernel
theorem dX2_close_5 : decode cX2_close 5 = .ok (.aload_n 0, 1) := by decide +kernel
theorem dX2_close_6 : decode cX2_close 6 = .ok (.iconst 0, 1) := by decide +kernel
theorem dX2_close_7 : decode cX2_close 7 = .ok (.putfield 21, 3) := by decide +kernel
theorem dX2_close_10 : decode cX2_close 10 = .ok (.return_, 1) := by decide +kernel
theorem dX2_lastPlace_0 : decode cX2_lastPlace 0 = .ok (.aload_n 0, 1) := by decide +kernel
theorem dX2_lastPlace_1 : decode cX2_lastPlace 1 = .ok (.getfield 18, 3) := by decide +kernel
theorem dX2_lastPlace_4 : decode cX2_lastPlace 4 = .ok (.iconst 1, 1) := by decide +kernel
theorem dX2_lastPlace_5 : decode cX2_lastPlace 5 = .ok (.isub, 1) := by decide +kernel
theorem dX2_lastPlace_6 : decode cX2_lastPlace 6 = .ok (.ireturn, 1) := by decide +kernel
theorem dX2_goOn_0 : decode cX2_goOn 0 = .ok (.aload_n 0, 1) := by decide +kernel
theorem dX2_goOn_1 : decode cX2_goOn 1 = .ok (.dup, 1) := by decide +kernel
theorem dX2_goOn_2 : decode cX2_goOn 2 = .ok (.getfield 18, 3) := by decide +kernel
theorem dX2_goOn_5 : decode cX2_goOn 5 = .ok (.iconst 1, 1) := by decide +kernel
theorem dX2_goOn_6 : decode cX2_goOn 6 = .ok (.iadd, 1) := by decide +kernel
theorem dX2_goOn_7 : decode cX2_goOn 7 = .ok (.putfield 18, 3) := by decide +kernel
theorem dX2_goOn_10 : decode cX2_goOn 10 = .ok (.aload_n 0, 1) := by decide +kernel
theorem dX2_goOn_11 : decode cX2_goOn 11 = .ok (.iconst 1, 1) := by decide +kernel
theorem dX2_goOn_12 : decode cX2_goOn 12 = .ok (.putfield 21, 3) := by decide +kernel
theorem dX2_goOn_15 : decode cX2_goOn 15 = .ok (.return_, 1) := by decide +kernel
theorem dX2_stepBack_0 : decode cX2_stepBack 0 = .ok (.aload_n 0, 1) := by decide +kernel
theorem dX2_stepBack_1 : decode cX2_stepBack 1 = .ok (.dup, 1) := by decide +kernel
theorem dX2_stepBack_2 : decode cX2_stepBack 2 = .ok (.getfield 18, 3) := by decide +kernel
theorem dX2_stepBack_5 : decode cX2_stepBack 5 = .ok (.iconst 1, 1) := by decide +kernel
theorem dX2_stepBack_6 : decode cX2_stepBack 6 = .ok (.isub, 1) := by decide +kernel
theorem dX2_stepBack_7 : decode cX2_stepBack 7 = .ok (.putfield 18, 3) := by decide +kernel
theorem dX2_stepBack_10 : decode cX2_stepBack 10 = .ok (.aload_n 0, 1) := by decide +kernel
theorem dX2_stepBack_11 : decode cX2_stepBack 11 = .ok (.iconst 0, 1) := by decide +kernel
theorem dX2_stepBack_12 : decode cX2_stepBack 12 = .ok (.putfield 21, 3) := by decide +kernel
theorem dX2_stepBack_15 : decode cX2_stepBack 15 = .ok (.return_, 1) := by decide +kernel
theorem dX3_init_0 : decode cX3_init 0 = .ok (.aload_n 0, 1) := by decide +kernel
theorem dX3_init_1 : decode cX3_init 1 = .ok (.invokespecial 3, 3) := by decide +kernel
theorem dX3_init_4 : decode cX3_init 4 = .ok (.aload_n 0, 1) := by decide +kernel
theorem dX3_init_5 : decode cX3_init 5 = .ok (.sipush 5000, 3) := by decide +kernel
theorem dX3_init_8 : decode cX3_init 8 = .ok (.newarray .char, 2) := by decide +kernel
theorem dX3_init_10 : decode cX3_init 10 = .ok (.putfield 9, 3) := by decide +kernel
theorem dX3_init_13 : decode cX3_init 13 = .ok (.return_, 1) := by decide +kernel
theorem dX3_reaches_0 : decode cX3_reaches 0 = .ok (.iload_n 1, 1) := by decide +kernel
theorem dX3_reaches_1 : decode cX3_reaches 1 = .ok (.ifCond .lt 15, 3) := by decide +kernel
theorem dX3_reaches_4 : decode cX3_reaches 4 = .ok (.iload_n 1, 1) := by decide +kernel
theorem dX3_reaches_5 : decode cX3_reaches 5 = .ok (.aload_n 0, 1) := by decide +kernel
theorem dX3_reaches_6 : decode cX3_reaches 6 = .ok (.getfield 15, 3) := by decide +kernel
theorem dX3_reaches_9 : decode cX3_reaches 9 = .ok (.if_icmp .ge 7, 3) := by decide +kernel
theorem dX3_reaches_12 : decode cX3_reaches 12 = .ok (.iconst 1, 1) := by decide +kernel
theorem dX3_reaches_13 : decode cX3_reaches 13 = .ok (.goto 4, 3) := by decide +kernel
theorem dX3_reaches_16 : decode cX3_reaches 16 = .ok (.iconst 0, 1) := by decide +kernel
theorem dX3_reaches_17 : decode cX3_reaches 17 = .ok (.ireturn, 1) := by decide +kernel
theorem dX3_signOn_0 : decode cX3_signOn 0 = .ok (.aload_n 0, 1) := by decide +kernel
theorem dX3_signOn_1 : decode cX3_signOn 1 = .ok (.iload_n 1, 1) := by decide +kernel
theorem dX3_signOn_2 : decode cX3_signOn 2 = .ok (.invokevirtual 19, 3) := by decide +kernel
theorem dX3_signOn_5 : decode cX3_signOn 5 = .ok (.ifCond .eq 12, 3) := by decide +kernel
theorem dX3_signOn_8 : decode cX3_signOn 8 = .ok (.aload_n 0, 1) := by decide +kernel
theorem dX3_signOn_9 : decode cX3_signOn 9 = .ok (.getfield 9, 3) := by decide +kernel
theorem dX3_signOn_12 : decode cX3_signOn 12 = .ok (.iload_n 1, 1) := by decide +kernel
theorem dX3_signOn_13 : decode cX3_signOn 13 = .ok (.caload, 1) := by decide +kernel
theorem dX3_signOn_14 : decode cX3_signOn 14 = .ok (.goto 4, 3) := by decide +kernel
theorem dX3_signOn_17 : decode cX3_signOn 17 = .ok (.iconst (-1), 1) := by decide +kernel
theorem dX3_signOn_18 : decode cX3_signOn 18 = .ok (.ireturn, 1) := by decide +kernel
theorem dX3_startAnew_0 : decode cX3_startAnew 0 = .ok (.aload_n 0, 1) := by decide +kernel
theorem dX3_startAnew_1 : decode cX3_startAnew 1 = .ok (.iconst 0, 1) := by decide +kernel
theorem dX3_startAnew_2 : decode cX3_startAnew 2 = .ok (.putfield 15, 3) := by decide +kernel
theorem dX3_startAnew_5 : decode cX3_startAnew 5 = .ok (.return_, 1) := by decide +kernel
theorem dX3_append_0 : decode cX3_append 0 = .ok (.aload_n 0, 1) := by decide +kernel
theorem dX3_append_1 : decode cX3_append 1 = .ok (.getfield 15, 3) := by decide +kernel
theorem dX3_append_4 : decode cX3_append 4 = .ok (.sipush 5000, 3) := by decide +kernel
theorem dX3_append_7 : decode cX3_append 7 = .ok (.if_icmp .ge 23, 3) := by decide +kernel
theorem dX3_append_10 : decode cX3_append 10 = .ok (.aload_n 0, 1) := by decide +kernel
theorem dX3_append_11 : decode cX3_append 11 = .ok (.getfield 9, 3) := by decide +kernel
theorem dX3_append_14 : decode cX3_append 14 = .ok (.aload_n 0, 1) := by decide +kernel
theorem dX3_append_15 : decode cX3_append 15 = .ok (.getfield 15, 3) := by decide +kernel
theorem dX3_append_18 : decode cX3_append 18 = .ok (.iload_n 1, 1) := by decide +kernel
theorem dX3_append_19 : decode cX3_append 19 = .ok (.castore, 1) := by decide +kernel
theorem dX3_append_20 : decode cX3_append 20 = .ok (.aload_n 0, 1) := by decide +kernel
theorem dX3_append_21 : decode cX3_append 21 = .ok (.dup, 1) := by decide +kernel
theorem dX3_append_22 : decode cX3_append 22 = .ok (.getfield 15, 3) := by decide +kernel
theorem dX3_append_25 : decode cX3_append 25 = .ok (.iconst 1, 1) := by decide +kernel
theorem dX3_append_26 : decode cX3_append 26 = .ok (.iadd, 1) := by decide +kernel
theorem dX3_append_27 : decode cX3_append 27 = .ok (.putfield 15, 3) := by decide +kernel
theorem dX3_append_30 : decode cX3_append 30 = .ok (.return_, 1) := by decide +kernel
theorem dX3_appendNumber_0 : decode cX3_appendNumber 0 = .ok (.iload_n 1, 1) := by decide +kernel
theorem dX3_appendNumber_1 : decode cX3_appendNumber 1 = .ok (.i2l, 1) := by decide +kernel
theorem dX3_appendNumber_2 : decode cX3_appendNumber 2 = .ok (.invokestatic 23, 3) := by decide +kernel
theorem dX3_appendNumber_5 : decode cX3_appendNumber 5 = .ok (.lstore_n 2, 1) := by decide +kernel
theorem dX3_appendNumber_6 : decode cX3_appendNumber 6 = .ok (.iload_n 1, 1) := by decide +kernel
theorem dX3_appendNumber_7 : decode cX3_appendNumber 7 = .ok (.ifCond .ge 9, 3) := by decide +kernel
theorem dX3_appendNumber_10 : decode cX3_appendNumber 10 = .ok (.aload_n 0, 1) := by decide +kernel
theorem dX3_appendNumber_11 : decode cX3_appendNumber 11 = .ok (.bipush 45, 2) := by decide +kernel
theorem dX3_appendNumber_13 : decode cX3_appendNumber 13 = .ok (.invokevirtual 29, 3) := by decide +kernel
theorem dX3_appendNumber_16 : decode cX3_appendNumber 16 = .ok (.ldc2_w 33, 3) := by decide +kernel
theorem dX3_appendNumber_19 : decode cX3_appendNumber 19 = .ok (.lstore 4, 2) := by decide +kernel
theorem dX3_appendNumber_21 : decode cX3_appendNumber 21 = .ok (.lload 4, 2) := by decide +kernel
theorem dX3_appendNumber_23 : decode cX3_appendNumber 23 = .ok (.lconst 0, 1) := by decide +kernel
theorem dX3_appendNumber_24 : decode cX3_appendNumber 24 = .ok (.lcmp, 1) := by decide +kernel
theorem dX3_appendNumber_25 : decode cX3_appendNumber 25 = .ok (.ifCond .le 46, 3) := by decide +kernel
theorem dX3_appendNumber_28 : decode cX3_appendNumber 28 = .ok (.lload 4, 2) := by decide +kernel
theorem dX3_appendNumber_30 : decode cX3_appendNumber 30 = .ok (.lload_n 2, 1) := by decide +kernel
theorem dX3_appendNumber_31 : decode cX3_appendNumber 31 = .ok (.lcmp, 1) := by decide +kernel
theorem dX3_appendNumber_32 : decode cX3_appendNumber 32 = .ok (.ifCond .le 10, 3) := by decide +kernel
theorem dX3_appendNumber_35 : decode cX3_appendNumber 35 = .ok (.lload 4, 2) := by decide +kernel
theorem dX3_appendNumber_37 : decode cX3_appendNumber 37 = .ok (.lconst 1, 1) := by decide +kernel
theorem dX3_appendNumber_38 : decode cX3_appendNumber 38 = .ok (.lcmp, 1) := by decide +kernel
theorem dX3_appendNumber_39 : decode cX3_appendNumber 39 = .ok (.ifCond .ne 21, 3) := by decide +kernel
theorem dX3_appendNumber_42 : decode cX3_appendNumber 42 = .ok (.aload_n 0, 1) := by decide +kernel
theorem dX3_appendNumber_43 : decode cX3_appendNumber 43 = .ok (.ldc2_w 35, 3) := by decide +kernel
theorem dX3_appendNumber_46 : decode cX3_appendNumber 46 = .ok (.lload_n 2, 1) := by decide +kernel
theorem dX3_appendNumber_47 : decode cX3_appendNumber 47 = .ok (.lload 4, 2) := by decide +kernel
theorem dX3_appendNumber_49 : decode cX3_appendNumber 49 = .ok (.ldiv, 1) := by decide +kernel
theorem dX3_appendNumber_50 : decode cX3_appendNumber 50 = .ok (.ldc2_w 37, 3) := by decide +kernel
theorem dX3_appendNumber_53 : decode cX3_appendNumber 53 = .ok (.lrem, 1) := by decide +kernel
theorem dX3_appendNumber_54 : decode cX3_appendNumber 54 = .ok (.ladd, 1) := by decide +kernel
theorem dX3_appendNumber_55 : decode cX3_appendNumber 55 = .ok (.l2i, 1) := by decide +kernel
theorem dX3_appendNumber_56 : decode cX3_appendNumber 56 = .ok (.i2c, 1) := by decide +kernel
theorem dX3_appendNumber_57 : decode cX3_appendNumber 57 = .ok (.invokevirtual 29, 3) := by decide +kernel
theorem dX3_appendNumber_60 : decode cX3_appendNumber 60 = .ok (.lload 4, 2) := by decide +kernel
theorem dX3_appendNumber_62 : decode cX3_appendNumber 62 = .ok (.ldc2_w 37, 3) := by decide +kernel
theorem dX3_appendNumber_65 : decode cX3_appendNumber 65 = .ok (.ldiv, 1) := by decide +kernel
theorem dX3_appendNumber_66 : decode cX3_appendNumber 66 = .ok (.lstore 4, 2) := by decide +kernel
theorem dX3_appendNumber_68 : decode cX3_appendNumber 68 = .ok (.goto (-47), 3) := by decide +kernel
theorem dX3_appendNumber_71 : decode cX3_appendNumber 71 = .ok (.return_, 1) := by decide +kernel
theorem dX4_init_0 : decode cX4_init 0 = .ok (.aload_n 0, 1) := by decide +kernel
theorem dX4_init_1 : decode cX4_init 1 = .ok (.invokespecial 3, 3) := by decide +kernel
theorem dX4_init_4 : decode cX4_init 4 = .ok (.aload_n 0, 1) := by decide +kernel
theorem dX4_init_5 : decode cX4_init 5 = .ok (.new 9, 3) := by decide +kernel
theorem dX4_init_8 : decode cX4_init 8 = .ok (.dup, 1) := by decide +kernel
theorem dX4_init_9 : decode cX4_init 9 = .ok (.sipush 200, 3) := by decide +kernel
theorem dX4_init_12 : decode cX4_init 12 = .ok (.iconst 0, 1) := by decide +kernel
theorem dX4_init_13 : decode cX4_init 13 = .ok (.invokespecial 11, 3) := by decide +kernel
theorem dX4_init_16 : decode cX4_init 16 = .ok (.putfield 14, 3) := by decide +kernel
theorem dX4_init_19 : decode cX4_init 19 = .ok (.aload_n 0, 1) := by decide +kernel
theorem dX4_init_20 : decode cX4_init 20 = .ok (.new 9, 3) := by decide +kernel
theorem dX4_init_23 : decode cX4_init 23 = .ok (.dup, 1) := by decide +kernel
theorem dX4_init_24 : decode cX4_init 24 = .ok (.sipush 200, 3) := by decide +kernel
theorem dX4_init_27 : decode cX4_init 27 = .ok (.iconst 0, 1) := by decide +kernel
theorem dX4_init_28 : decode cX4_init 28 = .ok (.invokespecial 11, 3) := by decide +kernel
theorem dX4_init_31 : decode cX4_init 31 = .ok (.putfield 18, 3) := by decide +kernel
theorem dX4_init_34 : decode cX4_init 34 = .ok (.aload_n 0, 1) := by decide +kernel
theorem dX4_init_35 : decode cX4_init 35 = .ok (.new 9, 3) := by decide +kernel
theorem dX4_init_38 : decode cX4_init 38 = .ok (.dup, 1) := by decide +kernel
theorem dX4_init_39 : decode cX4_init 39 = .ok (.bipush 8, 2) := by decide +kernel
theorem dX4_init_41 : decode cX4_init 41 = .ok (.iconst 1, 1) := by decide +kernel
theorem dX4_init_42 : decode cX4_init 42 = .ok (.invokespecial 11, 3) := by decide +kernel
theorem dX4_init_45 : decode cX4_init 45 = .ok (.putfield 21, 3) := by decide +kernel
theorem dX4_init_48 : decode cX4_init 48 = .ok (.aload_n 0, 1) := by decide +kernel
theorem dX4_init_49 : decode cX4_init 49 = .ok (.new 9, 3) := by decide +kernel
theorem dX4_init_52 : decode cX4_init 52 = .ok (.dup, 1) := by decide +kernel
theorem dX4_init_53 : decode cX4_init 53 = .ok (.sipush 200, 3) := by decide +kernel
theorem dX4_init_56 : decode cX4_init 56 = .ok (.iconst 0, 1) := by decide +kernel
theorem dX4_init_57 : decode cX4_init 57 = .ok (.invokespecial 11, 3) := by decide +kernel
theorem dX4_init_60 : decode cX4_init 60 = .ok (.putfield 24, 3) := by decide +kernel
theorem dX4_init_63 : decode cX4_init 63 = .ok (.aload_n 0, 1) := by decide +kernel
theorem dX4_init_64 : decode cX4_init 64 = .ok (.new 9, 3) := by decide +kernel
theorem dX4_init_67 : decode cX4_init 67 = .ok (.dup, 1) := by decide +kernel
theorem dX4_init_68 : decode cX4_init 68 = .ok (.sipush 200, 3) := by decide +kernel
theorem dX4_init_71 : decode cX4_init 71 = .ok (.iconst 0, 1) := by decide +kernel
theorem dX4_init_72 : decode cX4_init 72 = .ok (.invokespecial 11, 3) := by decide +kernel
theorem dX4_init_75 : decode cX4_init 75 = .ok (.putfield 27, 3) := by decide +kernel
theorem dX4_init_78 : decode cX4_init 78 = .ok (.aload_n 0, 1) := by decide +kernel
theorem dX4_init_79 : decode cX4_init 79 = .ok (.new 30, 3) := by decide +kernel
theorem dX4_init_82 : decode cX4_init 82 = .ok (.dup, 1) := by decide +kernel
theorem dX4_init_83 : decode cX4_init 83 = .ok (.invokespecial 32, 3) := by decide +kernel
theorem dX4_init_86 : decode cX4_init 86 = .ok (.putfield 33, 3) := by decide +kernel
theorem dX4_init_89 : decode cX4_init 89 = .ok (.aload_n 0, 1) := by decide +kernel
theorem dX4_init_90 : decode cX4_init 90 = .ok (.new 30, 3) := by decide +kernel
theorem dX4_init_93 : decode cX4_init 93 = .ok (.dup, 1) := by decide +kernel
theorem dX4_init_94 : decode cX4_init 94 = .ok (.invokespecial 32, 3) := by decide +kernel
theorem dX4_init_97 : decode cX4_init 97 = .ok (.putfield 37, 3) := by decide +kernel
theorem dX4_init_100 : decode cX4_init 100 = .ok (.aload_n 0, 1) := by decide +kernel
theorem dX4_init_101 : decode cX4_init 101 = .ok (.new 30, 3) := by decide +kernel
theorem dX4_init_104 : decode cX4_init 104 = .ok (.dup, 1) := by decide +kernel
theorem dX4_init_105 : decode cX4_init 105 = .ok (.invokespecial 32, 3) := by decide +kernel
theorem dX4_init_108 : decode cX4_init 108 = .ok (.putfield 40, 3) := by decide +kernel
theorem dX4_init_111 : decode cX4_init 111 = .ok (.aload_n 0, 1) := by decide +kernel
theorem dX4_init_112 : decode cX4_init 112 = .ok (.new 43, 3) := by decide +kernel
theorem dX4_init_115 : decode cX4_init 115 = .ok (.dup, 1) := by decide +kernel
theorem dX4_init_116 : decode cX4_init 116 = .ok (.invokespecial 45, 3) := by decide +kernel
theorem dX4_init_119 : decode cX4_init 119 = .ok (.putfield 46, 3) := by decide +kernel
theorem dX4_init_122 : decode cX4_init 122 = .ok (.return_, 1) := by decide +kernel
theorem dX4_rebind_0 : decode cX4_rebind 0 = .ok (.iload_n 1, 1) := by decide +kernel
theorem dX4_rebind_1 : decode cX4_rebind 1 = .ok (.iconst 1, 1) := by decide +kernel
theorem dX4_rebind_2 : decode cX4_rebind 2 = .ok (.if_icmp .lt 9, 3) := by decide +kernel
theorem dX4_rebind_5 : decode cX4_rebind 5 = .ok (.iload_n 1, 1) := by decide +kernel
theorem dX4_rebind_6 : decode cX4_rebind 6 = .ok (.bipush 40, 2) := by decide +kernel
theorem dX4_rebind_8 : decode cX4_rebind 8 = .ok (.if_icmp .le 13, 3) := by decide +kernel
theorem dX4_rebind_11 : decode cX4_rebind 11 = .ok (.new 50, 3) := by decide +kernel
theorem dX4_rebind_14 : decode cX4_rebind 14 = .ok (.dup, 1) := by decide +kernel
theorem dX4_rebind_15 : decode cX4_rebind 15 = .ok (.ldc 52, 2) := by decide +kernel
theorem dX4_rebind_17 : decode cX4_rebind 17 = .ok (.invokespecial 54, 3) := by decide +kernel
theorem dX4_rebind_20 : decode cX4_rebind 20 = .ok (.athrow, 1) := by decide +kernel
theorem dX4_rebind_21 : decode cX4_rebind 21 = .ok (.aload_n 0, 1) := by decide +kernel
theorem dX4_rebind_22 : decode cX4_rebind 22 = .ok (.getfield 21, 3) := by decide +kernel
theorem dX4_rebind_25 : decode cX4_rebind 25 = .ok (.getfield 57, 3) := by decide +kernel
theorem dX4_rebind_28 : decode cX4_rebind 28 = .ok (.istore_n 2, 1) := by decide +kernel
theorem dX4_rebind_29 : decode cX4_rebind 29 = .ok (.aload_n 0, 1) := by decide +kernel
theorem dX4_rebind_30 : decode cX4_rebind 30 = .ok (.getfield 21, 3) := by decide +kernel
theorem dX4_rebind_33 : decode cX4_rebind 33 = .ok (.invokevirtual 61, 3) := by decide +kernel
theorem dX4_rebind_36 : decode cX4_rebind 36 = .ok (.aload_n 0, 1) := by decide +kernel
theorem dX4_rebind_37 : decode cX4_rebind 37 = .ok (.getfield 21, 3) := by decide +kernel
theorem dX4_rebind_40 : decode cX4_rebind 40 = .ok (.iload_n 1, 1) := by decide +kernel
theorem dX4_rebind_41 : decode cX4_rebind 41 = .ok (.putfield 64, 3) := by decide +kernel
theorem dX4_rebind_44 : decode cX4_rebind 44 = .ok (.aload_n 0, 1) := by decide +kernel
theorem dX4_rebind_45 : decode cX4_rebind 45 = .ok (.iconst 2, 1) := by decide +kernel
theorem dX4_rebind_46 : decode cX4_rebind 46 = .ok (.iconst (-1), 1) := by decide +kernel
theorem dX4_rebind_47 : decode cX4_rebind 47 = .ok (.invokevirtual 67, 3) := by decide +kernel
theorem dX4_rebind_50 : decode cX4_rebind 50 = .ok (.iload_n 2, 1) := by decide +kernel
theorem dX4_rebind_51 : decode cX4_rebind 51 = .ok (.ireturn, 1) := by decide +kernel
theorem dX4_put_0 : decode cX4_put 0 = .ok (.aload_n 0, 1) := by decide +kernel
theorem dX4_put_1 : decode cX4_put 1 = .ok (.iload_n 1, 1) := by decide +kernel
theorem dX4_put_2 : decode cX4_put 2 = .ok (.invokevirtual 71, 3) := by decide +kernel
theorem dX4_put_5 : decode cX4_put 5 = .ok (.astore 4, 2) := by decide +kernel
theorem dX4_put_7 : decode cX4_put 7 = .ok (.aload_n 0, 1) := by decide +kernel
theorem dX4_put_8 : decode cX4_put 8 = .ok (.aload 4, 2) := by decide +kernel
theorem dX4_put_10 : decode cX4_put 10 = .ok (.iload_n 2, 1) := by decide +kernel
theorem dX4_put_11 : decode cX4_put 11 = .ok (.invokevirtual 75, 3) := by decide +kernel
theorem dX4_put_14 : decode cX4_put 14 = .ok (.aload_n 0, 1) := by decide +kernel
theorem dX4_put_15 : decode cX4_put 15 = .ok (.iload_n 1, 1) := by decide +kernel
theorem dX4_put_16 : decode cX4_put 16 = .ok (.iconst (-1), 1) := by decide +kernel
theorem dX4_put_17 : decode cX4_put 17 = .ok (.invokevirtual 67, 3) := by decide +kernel
theorem dX4_put_20 : decode cX4_put 20 = .ok (.aload 4, 2) := by decide +kernel
theorem dX4_put_22 : decode cX4_put 22 = .ok (.iload_n 2, 1) := by decide +kernel
theorem dX4_put_23 : decode cX4_put 23 = .ok (.iload_n 3, 1) := by decide +kernel
theorem dX4_put_24 : decode cX4_put 24 = .ok (.invokevirtual 79, 3) := by decide +kernel
theorem dX4_put_27 : decode cX4_put 27 = .ok (.ireturn, 1) := by decide +kernel
theorem dX4_putNew_0 : decode cX4_putNew 0 = .ok (.aload_n 0, 1) := by decide +kernel
theorem dX4_putNew_1 : decode cX4_putNew 1 = .ok (.iload_n 1, 1) := by decide +kernel
theorem dX4_putNew_2 : decode cX4_putNew 2 = .ok (.invokevirtual 83, 3) := by decide +kernel
theorem dX4_putNew_5 : decode cX4_putNew 5 = .ok (.astore 4, 2) := by decide +kernel
theorem dX4_putNew_7 : decode cX4_putNew 7 = .ok (.aload_n 0, 1) := by decide +kernel
theorem dX4_putNew_8 : decode cX4_putNew 8 = .ok (.aload 4, 2) := by decide +kernel
theorem dX4_putNew_10 : decode cX4_putNew 10 = .ok (.iload_n 2, 1) := by decide +kernel
theorem dX4_putNew_11 : decode cX4_putNew 11 = .ok (.invokevirtual 75, 3) := by decide +kernel
theorem dX4_putNew_14 : decode cX4_putNew 14 = .ok (.aload_n 0, 1) := by decide +kernel
theorem dX4_putNew_15 : decode cX4_putNew 15 = .ok (.iload_n 1, 1) := by decide +kernel
theorem dX4_putNew_16 : decode cX4_putNew 16 = .ok (.iconst (-1), 1) := by decide +kernel
theorem dX4_putNew_17 : decode cX4_putNew 17 = .ok (.invokevirtual 67, 3) := by decide +kernel
theorem dX4_putNew_20 : decode cX4_putNew 20 = .ok (.aload 4, 2) := by decide +kernel
theorem dX4_putNew_22 : decode cX4_putNew 22 = .ok (.iload_n 2, 1) := by decide +kernel
theorem dX4_putNew_23 : decode cX4_putNew 23 = .ok (.invokevirtual 86, 3) := by decide +kernel
theorem dX4_putNew_26 : decode cX4_putNew 26 = .ok (.istore 5, 2) := by decide +kernel
theorem dX4_putNew_28 : decode cX4_putNew 28 = .ok (.iload 5, 2) := by decide +kernel
theorem dX4_putNew_30 : decode cX4_putNew 30 = .ok (.iconst (-1), 1) := by decide +kernel
theorem dX4_putNew_31 : decode cX4_putNew 31 = .ok (.if_icmp .ne 12, 3) := by decide +kernel
theorem dX4_putNew_34 : decode cX4_putNew 34 = .ok (.aload 4, 2) := by decide +kernel
theorem dX4_putNew_36 : decode cX4_putNew 36 = .ok (.iload_n 2, 1) := by decide +kernel
theorem dX4_putNew_37 : decode cX4_putNew 37 = .ok (.iload_n 3, 1) := by decide +kernel
theorem dX4_putNew_38 : decode cX4_putNew 38 = .ok (.invokevirtual 90, 3) := by decide +kernel
theorem dX4_putNew_41 : decode cX4_putNew 41 = .ok (.iload_n 3, 1) := by decide +kernel
theorem dX4_putNew_42 : decode cX4_putNew 42 = .ok (.ireturn, 1) := by decide +kernel
theorem dX4_putNew_43 : decode cX4_putNew 43 = .ok (.aload 4, 2) := by decide +kernel
theorem dX4_putNew_45 : decode cX4_putNew 45 = .ok (.iload 5, 2) := by decide +kernel
theorem dX4_putNew_47 : decode cX4_putNew 47 = .ok (.invokevirtual 93, 3) := by decide +kernel
theorem dX4_putNew_50 : decode cX4_putNew 50 = .ok (.ireturn, 1) := by decide +kernel
theorem dX4_add_0 : decode cX4_add 0 = .ok (.aload_n 0, 1) := by decide +kernel
theorem dX4_add_1 : decode cX4_add 1 = .ok (.iload_n 1, 1) := by decide +kernel
theorem dX4_add_2 : decode cX4_add 2 = .ok (.invokevirtual 83, 3) := by decide +kernel
theorem dX4_add_5 : decode cX4_add 5 = .ok (.astore 4, 2) := by decide +kernel
theorem dX4_add_7 : decode cX4_add 7 = .ok (.aload_n 0, 1) := by decide +kernel
theorem dX4_add_8 : decode cX4_add 8 = .ok (.aload 4, 2) := by decide +kernel
theorem dX4_add_10 : decode cX4_add 10 = .ok (.iload_n 2, 1) := by decide +kernel
theorem dX4_add_11 : decode cX4_add 11 = .ok (.invokevirtual 75, 3) := by decide +kernel
theorem dX4_add_14 : decode cX4_add 14 = .ok (.aload_n 0, 1) := by decide +kernel
theorem dX4_add_15 : decode cX4_add 15 = .ok (.iload_n 1, 1) := by decide +kernel
theorem dX4_add_16 : decode cX4_add 16 = .ok (.iconst (-1), 1) := by decide +kernel
theorem dX4_add_17 : decode cX4_add 17 = .ok (.invokevirtual 67, 3) := by decide +kernel
theorem dX4_add_20 : decode cX4_add 20 = .ok (.aload 4, 2) := by decide +kernel
theorem dX4_add_22 : decode cX4_add 22 = .ok (.iload_n 2, 1) := by decide +kernel
theorem dX4_add_23 : decode cX4_add 23 = .ok (.invokevirtual 86, 3) := by decide +kernel
theorem dX4_add_26 : decode cX4_add 26 = .ok (.istore 5, 2) := by decide +kernel
theorem dX4_add_28 : decode cX4_add 28 = .ok (.iload 5, 2) := by decide +kernel
theorem dX4_add_30 : decode cX4_add 30 = .ok (.iconst (-1), 1) := by decide +kernel
theorem dX4_add_31 : decode cX4_add 31 = .ok (.if_icmp .ne 7, 3) := by decide +kernel
theorem dX4_add_34 : decode cX4_add 34 = .ok (.iload_n 3, 1) := by decide +kernel
theorem dX4_add_35 : decode cX4_add 35 = .ok (.goto 12, 3) := by decide +kernel
theorem dX4_add_38 : decode cX4_add 38 = .ok (.aload 4, 2) := by decide +kernel
theorem dX4_add_40 : decode cX4_add 40 = .ok (.iload 5, 2) := by decide +kernel
theorem dX4_add_42 : decode cX4_add 42 = .ok (.invokevirtual 93, 3) := by decide +kernel
theorem dX4_add_45 : decode cX4_add 45 = .ok (.iload_n 3, 1) := by decide +kernel
theorem dX4_add_46 : decode cX4_add 46 = .ok (.iadd, 1) := by decide +kernel
theorem dX4_add_47 : decode cX4_add 47 = .ok (.istore 6, 2) := by decide +kernel
theorem dX4_add_49 : decode cX4_add 49 = .ok (.aload 4, 2) := by decide +kernel
theorem dX4_add_51 : decode cX4_add 51 = .ok (.iload_n 2, 1) := by decide +kernel
theorem dX4_add_52 : decode cX4_add 52 = .ok (.iload 6, 2) := by decide +kernel
theorem dX4_add_54 : decode cX4_add 54 = .ok (.invokevirtual 79, 3) := by decide +kernel
theorem dX4_add_57 : decode cX4_add 57 = .ok (.pop, 1) := by decide +kernel
theorem dX4_add_58 : decode cX4_add 58 = .ok (.iload 6, 2) := by decide +kernel
theorem dX4_add_60 : decode cX4_add 60 = .ok (.ireturn, 1) := by decide +kernel
theorem dX4_halve_0 : decode cX4_halve 0 = .ok (.aload_n 0, 1) := by decide +kernel
theorem dX4_halve_1 : decode cX4_halve 1 = .ok (.iload_n 1, 1) := by decide +kernel
theorem dX4_halve_2 : decode cX4_halve 2 = .ok (.invokevirtual 83, 3) := by decide +kernel
theorem dX4_halve_5 : decode cX4_halve 5 = .ok (.astore_n 3, 1) := by decide +kernel
theorem dX4_halve_6 : decode cX4_halve 6 = .ok (.aload_n 0, 1) := by decide +kernel
theorem dX4_halve_7 : decode cX4_halve 7 = .ok (.iload_n 1, 1) := by decide +kernel
theorem dX4_halve_8 : decode cX4_halve 8 = .ok (.iconst (-1), 1) := by decide +kernel
theorem dX4_halve_9 : decode cX4_halve 9 = .ok (.invokevirtual 67, 3) := by decide +kernel
theorem dX4_halve_12 : decode cX4_halve 12 = .ok (.aload_n 3, 1) := by decide +kernel
theorem dX4_halve_13 : decode cX4_halve 13 = .ok (.iload_n 2, 1) := by decide +kernel
theorem dX4_halve_14 : decode cX4_halve 14 = .ok (.invokevirtual 86, 3) := by decide +kernel
theorem dX4_halve_17 : decode cX4_halve 17 = .ok (.istore 4, 2) := by decide +kernel
theorem dX4_halve_19 : decode cX4_halve 19 = .ok (.iload 4, 2) := by decide +kernel
theorem dX4_halve_21 : decode cX4_halve 21 = .ok (.iconst (-1), 1) := by decide +kernel
theorem dX4_halve_22 : decode cX4_halve 22 = .ok (.if_icmp .ne 5, 3) := by decide +kernel
theorem dX4_halve_25 : decode cX4_halve 25 = .ok (.iconst 0, 1) := by decide +kernel
theorem dX4_halve_26 : decode cX4_halve 26 = .ok (.ireturn, 1) := by decide +kernel
theorem dX4_halve_27 : decode cX4_halve 27 = .ok (.aload_n 3, 1) := by decide +kernel
theorem dX4_halve_28 : decode cX4_halve 28 = .ok (.iload 4, 2) := by decide +kernel
theorem dX4_halve_30 : decode cX4_halve 30 = .ok (.invokevirtual 93, 3) := by decide +kernel
theorem dX4_halve_33 : decode cX4_halve 33 = .ok (.iconst 2, 1) := by decide +kernel
theorem dX4_halve_34 : decode cX4_halve 34 = .ok (.idiv, 1) := by decide +kernel
theorem dX4_halve_35 : decode cX4_halve 35 = .ok (.istore 5, 2) := by decide +kernel
theorem dX4_halve_37 : decode cX4_halve 37 = .ok (.iload 5, 2) := by decide +kernel
theorem dX4_halve_39 : decode cX4_halve 39 = .ok (.ifCond .ne 11, 3) := by decide +kernel
theorem dX4_halve_42 : decode cX4_halve 42 = .ok (.aload_n 3, 1) := by decide +kernel
theorem dX4_halve_43 : decode cX4_halve 43 = .ok (.iload 4, 2) := by decide +kernel
theorem dX4_halve_45 : decode cX4_halve 45 = .ok (.invokevirtual 96, 3) := by decide +kernel
theorem dX4_halve_48 : decode cX4_halve 48 = .ok (.iconst 0, 1) := by decide +kernel
theorem dX4_halve_49 : decode cX4_halve 49 = .ok (.ireturn, 1) := by decide +kernel
theorem dX4_halve_50 : decode cX4_halve 50 = .ok (.aload_n 3, 1) := by decide +kernel
theorem dX4_halve_51 : decode cX4_halve 51 = .ok (.iload 4, 2) := by decide +kernel
theorem dX4_halve_53 : decode cX4_halve 53 = .ok (.iload 5, 2) := by decide +kernel
theorem dX4_halve_55 : decode cX4_halve 55 = .ok (.invokevirtual 100, 3) := by decide +kernel
theorem dX4_halve_58 : decode cX4_halve 58 = .ok (.iconst 1, 1) := by decide +kernel
theorem dX4_halve_59 : decode cX4_halve 59 = .ok (.ireturn, 1) := by decide +kernel
theorem dX4_addToAll_0 : decode cX4_addToAll 0 = .ok (.aload_n 0, 1) := by decide +kernel
theorem dX4_addToAll_1 : decode cX4_addToAll 1 = .ok (.iload_n 1, 1) := by decide +kernel
theorem dX4_addToAll_2 : decode cX4_addToAll 2 = .ok (.invokevirtual 71, 3) := by decide +kernel
theorem dX4_addToAll_5 : decode cX4_addToAll 5 = .ok (.astore_n 3, 1) := by decide +kernel
theorem dX4_addToAll_6 : decode cX4_addToAll 6 = .ok (.aload_n 0, 1) := by decide +kernel
theorem dX4_addToAll_7 : decode cX4_addToAll 7 = .ok (.iload_n 1, 1) := by decide +kernel
theorem dX4_addToAll_8 : decode cX4_addToAll 8 = .ok (.iconst (-1), 1) := by decide +kernel
theorem dX4_addToAll_9 : decode cX4_addToAll 9 = .ok (.invokevirtual 67, 3) := by decide +kernel
theorem dX4_addToAll_12 : decode cX4_addToAll 12 = .ok (.iconst 0, 1) := by decide +kernel
theorem dX4_addToAll_13 : decode cX4_addToAll 13 = .ok (.istore 4, 2) := by decide +kernel
theorem dX4_addToAll_15 : decode cX4_addToAll 15 = .ok (.iload 4, 2) := by decide +kernel
theorem dX4_addToAll_17 : decode cX4_addToAll 17 = .ok (.aload_n 3, 1) := by decide +kernel
theorem dX4_addToAll_18 : decode cX4_addToAll 18 = .ok (.getfield 57, 3) := by decide +kernel
theorem dX4_addToAll_21 : decode cX4_addToAll 21 = .ok (.if_icmp .ge 23, 3) := by decide +kernel
theorem dX4_addToAll_24 : decode cX4_addToAll 24 = .ok (.aload_n 3, 1) := by decide +kernel
theorem dX4_addToAll_25 : decode cX4_addToAll 25 = .ok (.iload 4, 2) := by decide +kernel
theorem dX4_addToAll_27 : decode cX4_addToAll 27 = .ok (.aload_n 3, 1) := by decide +kernel
theorem dX4_addToAll_28 : decode cX4_addToAll 28 = .ok (.iload 4, 2) := by decide +kernel
theorem dX4_addToAll_30 : decode cX4_addToAll 30 = .ok (.invokevirtual 93, 3) := by decide +kernel
theorem dX4_addToAll_33 : decode cX4_addToAll 33 = .ok (.iload_n 2, 1) := by decide +kernel
theorem dX4_addToAll_34 : decode cX4_addToAll 34 = .ok (.iadd, 1) := by decide +kernel
theorem dX4_addToAll_35 : decode cX4_addToAll 35 = .ok (.invokevirtual 100, 3) := by decide +kernel
theorem dX4_addToAll_38 : decode cX4_addToAll 38 = .ok (.iinc 4 1, 3) := by decide +kernel
theorem dX4_addToAll_41 : decode cX4_addToAll 41 = .ok (.goto (-26), 3) := by decide +kernel
theorem dX4_addToAll_44 : decode cX4_addToAll 44 = .ok (.aload_n 3, 1) := by decide +kernel
theorem dX4_addToAll_45 : decode cX4_addToAll 45 = .ok (.getfield 57, 3) := by decide +kernel
theorem dX4_addToAll_48 : decode cX4_addToAll 48 = .ok (.ireturn, 1) := by decide +kernel
theorem dX4_replace_0 : decode cX4_replace 0 = .ok (.aload_n 0, 1) := by decide +kernel
theorem dX4_replace_1 : decode cX4_replace 1 = .ok (.iload_n 1, 1) := by decide +kernel
theorem dX4_replace_2 : decode cX4_replace 2 = .ok (.invokevirtual 71, 3) := by decide +kernel
theorem dX4_replace_5 : decode cX4_replace 5 = .ok (.astore 4, 2) := by decide +kernel
theorem dX4_replace_7 : decode cX4_replace 7 = .ok (.aload_n 0, 1) := by decide +kernel
theorem dX4_replace_8 : decode cX4_replace 8 = .ok (.iload_n 1, 1) := by decide +kernel
theorem dX4_replace_9 : decode cX4_replace 9 = .ok (.iconst (-1), 1) := by decide +kernel
theorem dX4_replace_10 : decode cX4_replace 10 = .ok (.invokevirtual 67, 3) := by decide +kernel
theorem dX4_replace_13 : decode cX4_replace 13 = .ok (.aload 4, 2) := by decide +kernel
theorem dX4_replace_15 : decode cX4_replace 15 = .ok (.iload_n 2, 1) := by decide +kernel
theorem dX4_replace_16 : decode cX4_replace 16 = .ok (.invokevirtual 86, 3) := by decide +kernel
theorem dX4_replace_19 : decode cX4_replace 19 = .ok (.istore 5, 2) := by decide +kernel
theorem dX4_replace_21 : decode cX4_replace 21 = .ok (.iload 5, 2) := by decide +kernel
theorem dX4_replace_23 : decode cX4_replace 23 = .ok (.iconst (-1), 1) := by decide +kernel
theorem dX4_replace_24 : decode cX4_replace 24 = .ok (.if_icmp .ne 5, 3) := by decide +kernel
theorem dX4_replace_27 : decode cX4_replace 27 = .ok (.iconst 0, 1) := by decide +kernel
theorem dX4_replace_28 : decode cX4_replace 28 = .ok (.ireturn, 1) := by decide +kernel
theorem dX4_replace_29 : decode cX4_replace 29 = .ok (.aload 4, 2) := by decide +kernel
theorem dX4_replace_31 : decode cX4_replace 31 = .ok (.iload 5, 2) := by decide +kernel
theorem dX4_replace_33 : decode cX4_replace 33 = .ok (.iload_n 3, 1) := by decide +kernel
theorem dX4_replace_34 : decode cX4_replace 34 = .ok (.invokevirtual 100, 3) := by decide +kernel
theorem dX4_replace_37 : decode cX4_replace 37 = .ok (.iconst 1, 1) := by decide +kernel
theorem dX4_replace_38 : decode cX4_replace 38 = .ok (.ireturn, 1) := by decide +kernel
theorem dX4_remove_0 : decode cX4_remove 0 = .ok (.aload_n 0, 1) := by decide +kernel
theorem dX4_remove_1 : decode cX4_remove 1 = .ok (.iload_n 1, 1) := by decide +kernel
theorem dX4_remove_2 : decode cX4_remove 2 = .ok (.invokevirtual 71, 3) := by decide +kernel
theorem dX4_remove_5 : decode cX4_remove 5 = .ok (.astore_n 3, 1) := by decide +kernel
theorem dX4_remove_6 : decode cX4_remove 6 = .ok (.aload_n 3, 1) := by decide +kernel
theorem dX4_remove_7 : decode cX4_remove 7 = .ok (.iload_n 2, 1) := by decide +kernel
theorem dX4_remove_8 : decode cX4_remove 8 = .ok (.invokevirtual 86, 3) := by decide +kernel
theorem dX4_remove_11 : decode cX4_remove 11 = .ok (.istore 4, 2) := by decide +kernel
theorem dX4_remove_13 : decode cX4_remove 13 = .ok (.iload 4, 2) := by decide +kernel
theorem dX4_remove_15 : decode cX4_remove 15 = .ok (.iconst (-1), 1) := by decide +kernel
theorem dX4_remove_16 : decode cX4_remove 16 = .ok (.if_icmp .ne 13, 3) := by decide +kernel
theorem dX4_remove_19 : decode cX4_remove 19 = .ok (.new 103, 3) := by decide +kernel
theorem dX4_remove_22 : decode cX4_remove 22 = .ok (.dup, 1) := by decide +kernel
theorem dX4_remove_23 : decode cX4_remove 23 = .ok (.ldc 105, 2) := by decide +kernel
theorem dX4_remove_25 : decode cX4_remove 25 = .ok (.invokespecial 107, 3) := by decide +kernel
theorem dX4_remove_28 : decode cX4_remove 28 = .ok (.athrow, 1) := by decide +kernel
theorem dX4_remove_29 : decode cX4_remove 29 = .ok (.aload_n 0, 1) := by decide +kernel
theorem dX4_remove_30 : decode cX4_remove 30 = .ok (.iload_n 1, 1) := by decide +kernel
theorem dX4_remove_31 : decode cX4_remove 31 = .ok (.iconst (-1), 1) := by decide +kernel
theorem dX4_remove_32 : decode cX4_remove 32 = .ok (.invokevirtual 67, 3) := by decide +kernel
theorem dX4_remove_35 : decode cX4_remove 35 = .ok (.aload_n 3, 1) := by decide +kernel
theorem dX4_remove_36 : decode cX4_remove 36 = .ok (.iload 4, 2) := by decide +kernel
theorem dX4_remove_38 : decode cX4_remove 38 = .ok (.invokevirtual 93, 3) := by decide +kernel
theorem dX4_remove_41 : decode cX4_remove 41 = .ok (.istore 5, 2) := by decide +kernel
theorem dX4_remove_43 : decode cX4_remove 43 = .ok (.aload_n 3, 1) := by decide +kernel
theorem dX4_remove_44 : decode cX4_remove 44 = .ok (.iload 4, 2) := by decide +kernel
theorem dX4_remove_46 : decode cX4_remove 46 = .ok (.invokevirtual 96, 3) := by decide +kernel
theorem dX4_remove_49 : decode cX4_remove 49 = .ok (.iload 5, 2) := by decide +kernel
theorem dX4_remove_51 : decode cX4_remove 51 = .ok (.ireturn, 1) := by decide +kernel
theorem dX4_removePair_0 : decode cX4_removePair 0 = .ok (.aload_n 0, 1) := by decide +kernel
theorem dX4_removePair_1 : decode cX4_removePair 1 = .ok (.iload_n 1, 1) := by decide +kernel
theorem dX4_removePair_2 : decode cX4_removePair 2 = .ok (.invokevirtual 71, 3) := by decide +kernel
theorem dX4_removePair_5 : decode cX4_removePair 5 = .ok (.astore 4, 2) := by decide +kernel
theorem dX4_removePair_7 : decode cX4_removePair 7 = .ok (.aload_n 0, 1) := by decide +kernel
theorem dX4_removePair_8 : decode cX4_removePair 8 = .ok (.iload_n 1, 1) := by decide +kernel
theorem dX4_removePair_9 : decode cX4_removePair 9 = .ok (.iconst (-1), 1) := by decide +kernel
theorem dX4_removePair_10 : decode cX4_removePair 10 = .ok (.invokevirtual 67, 3) := by decide +kernel
theorem dX4_removePair_13 : decode cX4_removePair 13 = .ok (.aload 4, 2) := by decide +kernel
theorem dX4_removePair_15 : decode cX4_removePair 15 = .ok (.iload_n 2, 1) := by decide +kernel
theorem dX4_removePair_16 : decode cX4_removePair 16 = .ok (.invokevirtual 86, 3) := by decide +kernel
theorem dX4_removePair_19 : decode cX4_removePair 19 = .ok (.istore 5, 2) := by decide +kernel
theorem dX4_removePair_21 : decode cX4_removePair 21 = .ok (.iload 5, 2) := by decide +kernel
theorem dX4_removePair_23 : decode cX4_removePair 23 = .ok (.iconst (-1), 1) := by decide +kernel
theorem dX4_removePair_24 : decode cX4_removePair 24 = .ok (.if_icmp .eq 14, 3) := by decide +kernel
theorem dX4_removePair_27 : decode cX4_removePair 27 = .ok (.aload 4, 2) := by decide +kernel
theorem dX4_removePair_29 : decode cX4_removePair 29 = .ok (.iload 5, 2) := by decide +kernel
theorem dX4_removePair_31 : decode cX4_removePair 31 = .ok (.invokevirtual 93, 3) := by decide +kernel
theorem dX4_removePair_34 : decode cX4_removePair 34 = .ok (.iload_n 3, 1) := by decide +kernel
theorem dX4_removePair_35 : decode cX4_removePair 35 = .ok (.if_icmp .eq 5, 3) := by decide +kernel
theorem dX4_removePair_38 : decode cX4_removePair 38 = .ok (.iconst 0, 1) := by decide +kernel
theorem dX4_removePair_39 : decode cX4_removePair 39 = .ok (.ireturn, 1) := by decide +kernel
theorem dX4_removePair_40 : decode cX4_removePair 40 = .ok (.aload 4, 2) := by decide +kernel
theorem dX4_removePair_42 : decode cX4_removePair 42 = .ok (.iload 5, 2) := by decide +kernel
theorem dX4_removePair_44 : decode cX4_removePair 44 = .ok (.invokevirtual 96, 3) := by decide +kernel
theorem dX4_removePair_47 : decode cX4_removePair 47 = .ok (.iconst 1, 1) := by decide +kernel
theorem dX4_removePair_48 : decode cX4_removePair 48 = .ok (.ireturn, 1) := by decide +kernel
theorem dX4_fill_0 : decode cX4_fill 0 = .ok (.aload_n 0, 1) := by decide +kernel
theorem dX4_fill_1 : decode cX4_fill 1 = .ok (.iload_n 1, 1) := by decide +kernel
theorem dX4_fill_2 : decode cX4_fill 2 = .ok (.invokevirtual 71, 3) := by decide +kernel
theorem dX4_fill_5 : decode cX4_fill 5 = .ok (.astore 5, 2) := by decide +kernel
theorem dX4_fill_7 : decode cX4_fill 7 = .ok (.iload 4, 2) := by decide +kernel
theorem dX4_fill_9 : decode cX4_fill 9 = .ok (.ifCond .lt 10, 3) := by decide +kernel
theorem dX4_fill_12 : decode cX4_fill 12 = .ok (.iload 4, 2) := by decide +kernel
theorem dX4_fill_14 : decode cX4_fill 14 = .ok (.bipush 60, 2) := by decide +kernel
theorem dX4_fill_16 : decode cX4_fill 16 = .ok (.if_icmp .le 13, 3) := by decide +kernel
theorem dX4_fill_19 : decode cX4_fill 19 = .ok (.new 50, 3) := by decide +kernel
theorem dX4_fill_22 : decode cX4_fill 22 = .ok (.dup, 1) := by decide +kernel
theorem dX4_fill_23 : decode cX4_fill 23 = .ok (.ldc 108, 2) := by decide +kernel
theorem dX4_fill_25 : decode cX4_fill 25 = .ok (.invokespecial 54, 3) := by decide +kernel
theorem dX4_fill_28 : decode cX4_fill 28 = .ok (.athrow, 1) := by decide +kernel
theorem dX4_fill_29 : decode cX4_fill 29 = .ok (.aload_n 0, 1) := by decide +kernel
theorem dX4_fill_30 : decode cX4_fill 30 = .ok (.aload 5, 2) := by decide +kernel
theorem dX4_fill_32 : decode cX4_fill 32 = .ok (.bipush 60, 2) := by decide +kernel
theorem dX4_fill_34 : decode cX4_fill 34 = .ok (.invokevirtual 110, 3) := by decide +kernel
theorem dX4_fill_37 : decode cX4_fill 37 = .ok (.aload_n 0, 1) := by decide +kernel
theorem dX4_fill_38 : decode cX4_fill 38 = .ok (.iload_n 1, 1) := by decide +kernel
theorem dX4_fill_39 : decode cX4_fill 39 = .ok (.iconst (-1), 1) := by decide +kernel
theorem dX4_fill_40 : decode cX4_fill 40 = .ok (.invokevirtual 67, 3) := by decide +kernel
theorem dX4_fill_43 : decode cX4_fill 43 = .ok (.iload_n 2, 1) := by decide +kernel
theorem dX4_fill_44 : decode cX4_fill 44 = .ok (.istore 6, 2) := by decide +kernel
theorem dX4_fill_46 : decode cX4_fill 46 = .ok (.iconst 0, 1) := by decide +kernel
theorem dX4_fill_47 : decode cX4_fill 47 = .ok (.istore 7, 2) := by decide +kernel
theorem dX4_fill_49 : decode cX4_fill 49 = .ok (.iload 7, 2) := by decide +kernel
theorem dX4_fill_51 : decode cX4_fill 51 = .ok (.iload 4, 2) := by decide +kernel
theorem dX4_fill_53 : decode cX4_fill 53 = .ok (.if_icmp .ge 24, 3) := by decide +kernel
theorem dX4_fill_56 : decode cX4_fill 56 = .ok (.aload 5, 2) := by decide +kernel
theorem dX4_fill_58 : decode cX4_fill 58 = .ok (.iload 6, 2) := by decide +kernel
theorem dX4_fill_60 : decode cX4_fill 60 = .ok (.iconst 0, 1) := by decide +kernel
theorem dX4_fill_61 : decode cX4_fill 61 = .ok (.invokevirtual 79, 3) := by decide +kernel
theorem dX4_fill_64 : decode cX4_fill 64 = .ok (.pop, 1) := by decide +kernel
theorem dX4_fill_65 : decode cX4_fill 65 = .ok (.iload 6, 2) := by decide +kernel
theorem dX4_fill_67 : decode cX4_fill 67 = .ok (.iload_n 3, 1) := by decide +kernel
theorem dX4_fill_68 : decode cX4_fill 68 = .ok (.iadd, 1) := by decide +kernel
theorem dX4_fill_69 : decode cX4_fill 69 = .ok (.istore 6, 2) := by decide +kernel
theorem dX4_fill_71 : decode cX4_fill 71 = .ok (.iinc 7 1, 3) := by decide +kernel
theorem dX4_fill_74 : decode cX4_fill 74 = .ok (.goto (-25), 3) := by decide +kernel
theorem dX4_fill_77 : decode cX4_fill 77 = .ok (.aload 5, 2) := by decide +kernel
theorem dX4_fill_79 : decode cX4_fill 79 = .ok (.getfield 57, 3) := by decide +kernel
theorem dX4_fill_82 : decode cX4_fill 82 = .ok (.ireturn, 1) := by decide +kernel
theorem dX4_pour_0 : decode cX4_pour 0 = .ok (.aload_n 0, 1) := by decide +kernel
theorem dX4_pour_1 : decode cX4_pour 1 = .ok (.iload_n 1, 1) := by decide +kernel
theorem dX4_pour_2 : decode cX4_pour 2 = .ok (.invokevirtual 113, 3) := by decide +kernel
theorem dX4_pour_5 : decode cX4_pour 5 = .ok (.astore_n 3, 1) := by decide +kernel
theorem dX4_pour_6 : decode cX4_pour 6 = .ok (.aload_n 0, 1) := by decide +kernel
theorem dX4_pour_7 : decode cX4_pour 7 = .ok (.iload_n 2, 1) := by decide +kernel
theorem dX4_pour_8 : decode cX4_pour 8 = .ok (.invokevirtual 71, 3) := by decide +kernel
theorem dX4_pour_11 : decode cX4_pour 11 = .ok (.astore 4, 2) := by decide +kernel
theorem dX4_pour_13 : decode cX4_pour 13 = .ok (.aload_n 0, 1) := by decide +kernel
theorem dX4_pour_14 : decode cX4_pour 14 = .ok (.iload_n 1, 1) := by decide +kernel
theorem dX4_pour_15 : decode cX4_pour 15 = .ok (.iload_n 2, 1) := by decide +kernel
theorem dX4_pour_16 : decode cX4_pour 16 = .ok (.invokevirtual 116, 3) := by decide +kernel
theorem dX4_pour_19 : decode cX4_pour 19 = .ok (.aload_n 0, 1) := by decide +kernel
theorem dX4_pour_20 : decode cX4_pour 20 = .ok (.aload 4, 2) := by decide +kernel
theorem dX4_pour_22 : decode cX4_pour 22 = .ok (.aload_n 3, 1) := by decide +kernel
theorem dX4_pour_23 : decode cX4_pour 23 = .ok (.aload 4, 2) := by decide +kernel
theorem dX4_pour_25 : decode cX4_pour 25 = .ok (.invokevirtual 119, 3) := by decide +kernel
theorem dX4_pour_28 : decode cX4_pour 28 = .ok (.invokevirtual 110, 3) := by decide +kernel
theorem dX4_pour_31 : decode cX4_pour 31 = .ok (.aload_n 0, 1) := by decide +kernel
theorem dX4_pour_32 : decode cX4_pour 32 = .ok (.iload_n 2, 1) := by decide +kernel
theorem dX4_pour_33 : decode cX4_pour 33 = .ok (.iconst (-1), 1) := by decide +kernel
theorem dX4_pour_34 : decode cX4_pour 34 = .ok (.invokevirtual 67, 3) := by decide +kernel
theorem dX4_pour_37 : decode cX4_pour 37 = .ok (.aload 4, 2) := by decide +kernel
theorem dX4_pour_39 : decode cX4_pour 39 = .ok (.aload_n 3, 1) := by decide +kernel
theorem dX4_pour_40 : decode cX4_pour 40 = .ok (.invokevirtual 123, 3) := by decide +kernel
theorem dX4_pour_43 : decode cX4_pour 43 = .ok (.aload 4, 2) := by decide +kernel
theorem dX4_pour_45 : decode cX4_pour 45 = .ok (.getfield 57, 3) := by decide +kernel
theorem dX4_pour_48 : decode cX4_pour 48 = .ok (.ireturn, 1) := by decide +kernel
theorem dX4_copy_0 : decode cX4_copy 0 = .ok (.aload_n 0, 1) := by decide +kernel
theorem dX4_copy_1 : decode cX4_copy 1 = .ok (.iload_n 1, 1) := by decide +kernel
theorem dX4_copy_2 : decode cX4_copy 2 = .ok (.invokevirtual 113, 3) := by decide +kernel
theorem dX4_copy_5 : decode cX4_copy 5 = .ok (.astore_n 3, 1) := by decide +kernel
theorem dX4_copy_6 : decode cX4_copy 6 = .ok (.aload_n 0, 1) := by decide +kernel
theorem dX4_copy_7 : decode cX4_copy 7 = .ok (.iload_n 2, 1) := by decide +kernel
theorem dX4_copy_8 : decode cX4_copy 8 = .ok (.invokevirtual 83, 3) := by decide +kernel
theorem dX4_copy_11 : decode cX4_copy 11 = .ok (.astore 4, 2) := by decide +kernel
theorem dX4_copy_13 : decode cX4_copy 13 = .ok (.aload_n 0, 1) := by decide +kernel
theorem dX4_copy_14 : decode cX4_copy 14 = .ok (.iload_n 1, 1) := by decide +kernel
theorem dX4_copy_15 : decode cX4_copy 15 = .ok (.iload_n 2, 1) := by decide +kernel
theorem dX4_copy_16 : decode cX4_copy 16 = .ok (.invokevirtual 116, 3) := by decide +kernel
theorem dX4_copy_19 : decode cX4_copy 19 = .ok (.aload_n 0, 1) := by decide +kernel
theorem dX4_copy_20 : decode cX4_copy 20 = .ok (.iload_n 2, 1) := by decide +kernel
theorem dX4_copy_21 : decode cX4_copy 21 = .ok (.iconst (-1), 1) := by decide +kernel
theorem dX4_copy_22 : decode cX4_copy 22 = .ok (.invokevirtual 67, 3) := by decide +kernel
theorem dX4_copy_25 : decode cX4_copy 25 = .ok (.aload 4, 2) := by decide +kernel
theorem dX4_copy_27 : decode cX4_copy 27 = .ok (.aload_n 3, 1) := by decide +kernel
theorem dX4_copy_28 : decode cX4_copy 28 = .ok (.invokevirtual 127, 3) := by decide +kernel
theorem dX4_copy_31 : decode cX4_copy 31 = .ok (.aload 4, 2) := by decide +kernel
theorem dX4_copy_33 : decode cX4_copy 33 = .ok (.getfield 57, 3) := by decide +kernel
theorem dX4_copy_36 : decode cX4_copy 36 = .ok (.ireturn, 1) := by decide +kernel
theorem dX4_clear_0 : decode cX4_clear 0 = .ok (.aload_n 0, 1) := by decide +kernel
theorem dX4_clear_1 : decode cX4_clear 1 = .ok (.iload_n 1, 1) := by decide +kernel
theorem dX4_clear_2 : decode cX4_clear 2 = .ok (.invokevirtual 71, 3) := by decide +kernel
theorem dX4_clear_5 : decode cX4_clear 5 = .ok (.astore_n 2, 1) := by decide +kernel
theorem dX4_clear_6 : decode cX4_clear 6 = .ok (.aload_n 0, 1) := by decide +kernel
theorem dX4_clear_7 : decode cX4_clear 7 = .ok (.iload_n 1, 1) := by decide +kernel
theorem dX4_clear_8 : decode cX4_clear 8 = .ok (.iconst (-1), 1) := by decide +kernel
theorem dX4_clear_9 : decode cX4_clear 9 = .ok (.invokevirtual 67, 3) := by decide +kernel
theorem dX4_clear_12 : decode cX4_clear 12 = .ok (.aload_n 2, 1) := by decide +kernel
theorem dX4_clear_13 : decode cX4_clear 13 = .ok (.getfield 57, 3) := by decide +kernel
theorem dX4_clear_16 : decode cX4_clear 16 = .ok (.istore_n 3, 1) := by decide +kernel
theorem dX4_clear_17 : decode cX4_clear 17 = .ok (.aload_n 2, 1) := by decide +kernel
theorem dX4_clear_18 : decode cX4_clear 18 = .ok (.invokevirtual 61, 3) := by decide +kernel
theorem dX4_clear_21 : decode cX4_clear 21 = .ok (.iload_n 3, 1) := by decide +kernel
theorem dX4_clear_22 : decode cX4_clear 22 = .ok (.ireturn, 1) := by decide +kernel
theorem dX4_offer_0 : decode cX4_offer 0 = .ok (.aload_n 0, 1) := by decide +kernel
theorem dX4_offer_1 : decode cX4_offer 1 = .ok (.aload_n 0, 1) := by decide +kernel
theorem dX4_offer_2 : decode cX4_offer 2 = .ok (.getfield 24, 3) := by decide +kernel
theorem dX4_offer_5 : decode cX4_offer 5 = .ok (.iload_n 1, 1) := by decide +kernel
theorem dX4_offer_6 : decode cX4_offer 6 = .ok (.invokevirtual 75, 3) := by decide +kernel
theorem dX4_offer_9 : decode cX4_offer 9 = .ok (.aload_n 0, 1) := by decide +kernel
theorem dX4_offer_10 : decode cX4_offer 10 = .ok (.iconst 3, 1) := by decide +kernel
theorem dX4_offer_11 : decode cX4_offer 11 = .ok (.iconst (-1), 1) := by decide +kernel
theorem dX4_offer_12 : decode cX4_offer 12 = .ok (.invokevirtual 67, 3) := by decide +kernel
theorem dX4_offer_15 : decode cX4_offer 15 = .ok (.aload_n 0, 1) := by decide +kernel
theorem dX4_offer_16 : decode cX4_offer 16 = .ok (.getfield 24, 3) := by decide +kernel
theorem dX4_offer_19 : decode cX4_offer 19 = .ok (.iload_n 1, 1) := by decide +kernel
theorem dX4_offer_20 : decode cX4_offer 20 = .ok (.invokevirtual 86, 3) := by decide +kernel
theorem dX4_offer_23 : decode cX4_offer 23 = .ok (.istore_n 2, 1) := by decide +kernel
theorem dX4_offer_24 : decode cX4_offer 24 = .ok (.aload_n 0, 1) := by decide +kernel
theorem dX4_offer_25 : decode cX4_offer 25 = .ok (.getfield 24, 3) := by decide +kernel
theorem dX4_offer_28 : decode cX4_offer 28 = .ok (.iload_n 1, 1) := by decide +kernel
theorem dX4_offer_29 : decode cX4_offer 29 = .ok (.iload_n 2, 1) := by decide +kernel
theorem dX4_offer_30 : decode cX4_offer 30 = .ok (.iconst (-1), 1) := by decide +kernel
theorem dX4_offer_31 : decode cX4_offer 31 = .ok (.if_icmp .ne 7, 3) := by decide +kernel
theorem dX4_offer_34 : decode cX4_offer 34 = .ok (.iconst 1, 1) := by decide +kernel
theorem dX4_offer_35 : decode cX4_offer 35 = .ok (.goto 13, 3) := by decide +kernel
theorem dX4_offer_38 : decode cX4_offer 38 = .ok (.aload_n 0, 1) := by decide +kernel
theorem dX4_offer_39 : decode cX4_offer 39 = .ok (.getfield 24, 3) := by decide +kernel
theorem dX4_offer_42 : decode cX4_offer 42 = .ok (.iload_n 2, 1) := by decide +kernel
theorem dX4_offer_43 : decode cX4_offer 43 = .ok (.invokevirtual 93, 3) := by decide +kernel
theorem dX4_offer_46 : decode cX4_offer 46 = .ok (.iconst 1, 1) := by decide +kernel
theorem dX4_offer_47 : decode cX4_offer 47 = .ok (.iadd, 1) := by decide +kernel
theorem dX4_offer_48 : decode cX4_offer 48 = .ok (.invokevirtual 79, 3) := by decide +kernel
theorem dX4_offer_51 : decode cX4_offer 51 = .ok (.pop, 1) := by decide +kernel
theorem dX4_offer_52 : decode cX4_offer 52 = .ok (.iload_n 2, 1) := by decide +kernel
theorem dX4_offer_53 : decode cX4_offer 53 = .ok (.iconst (-1), 1) := by decide +kernel
theorem dX4_offer_54 : decode cX4_offer 54 = .ok (.if_icmp .ne 7, 3) := by decide +kernel
theorem dX4_offer_57 : decode cX4_offer 57 = .ok (.iconst 1, 1) := by decide +kernel
theorem dX4_offer_58 : decode cX4_offer 58 = .ok (.goto 4, 3) := by decide +kernel
theorem dX4_offer_61 : decode cX4_offer 61 = .ok (.iconst 0, 1) := by decide +kernel
theorem dX4_offer_62 : decode cX4_offer 62 = .ok (.ireturn, 1) := by decide +kernel
theorem dX4_poll_0 : decode cX4_poll 0 = .ok (.aload_n 0, 1) := by decide +kernel
theorem dX4_poll_1 : decode cX4_poll 1 = .ok (.getfield 24, 3) := by decide +kernel
theorem dX4_poll_4 : decode cX4_poll 4 = .ok (.getfield 57, 3) := by decide +kernel
theorem dX4_poll_7 : decode cX4_poll 7 = .ok (.ifCond .ne 13, 3) := by decide +kernel
theorem dX4_poll_10 : decode cX4_poll 10 = .ok (.new 103, 3) := by decide +kernel
theorem dX4_poll_13 : decode cX4_poll 13 = .ok (.dup, 1) := by decide +kernel
theorem dX4_poll_14 : decode cX4_poll 14 = .ok (.ldc 130, 2) := by decide +kernel
theorem dX4_poll_16 : decode cX4_poll 16 = .ok (.invokespecial 107, 3) := by decide +kernel
theorem dX4_poll_19 : decode cX4_poll 19 = .ok (.athrow, 1) := by decide +kernel
theorem dX4_poll_20 : decode cX4_poll 20 = .ok (.aload_n 0, 1) := by decide +kernel
theorem dX4_poll_21 : decode cX4_poll 21 = .ok (.iconst 3, 1) := by decide +kernel
theorem dX4_poll_22 : decode cX4_poll 22 = .ok (.iconst (-1), 1) := by decide +kernel
theorem dX4_poll_23 : decode cX4_poll 23 = .ok (.invokevirtual 67, 3) := by decide +kernel
theorem dX4_poll_26 : decode cX4_poll 26 = .ok (.aload_n 0, 1) := by decide +kernel
theorem dX4_poll_27 : decode cX4_poll 27 = .ok (.getfield 24, 3) := by decide +kernel
theorem dX4_poll_30 : decode cX4_poll 30 = .ok (.iconst 0, 1) := by decide +kernel
theorem dX4_poll_31 : decode cX4_poll 31 = .ok (.invokevirtual 132, 3) := by decide +kernel
theorem dX4_poll_34 : decode cX4_poll 34 = .ok (.istore_n 1, 1) := by decide +kernel
theorem dX4_poll_35 : decode cX4_poll 35 = .ok (.aload_n 0, 1) := by decide +kernel
theorem dX4_poll_36 : decode cX4_poll 36 = .ok (.getfield 24, 3) := by decide +kernel
theorem dX4_poll_39 : decode cX4_poll 39 = .ok (.iconst 0, 1) := by decide +kernel
theorem dX4_poll_40 : decode cX4_poll 40 = .ok (.invokevirtual 96, 3) := by decide +kernel
theorem dX4_poll_43 : decode cX4_poll 43 = .ok (.iload_n 1, 1) := by decide +kernel
theorem dX4_poll_44 : decode cX4_poll 44 = .ok (.ireturn, 1) := by decide +kernel
theorem dX4_toEnd_0 : decode cX4_toEnd 0 = .ok (.aload_n 0, 1) := by decide +kernel
theorem dX4_toEnd_1 : decode cX4_toEnd 1 = .ok (.getfield 24, 3) := by decide +kernel
theorem dX4_toEnd_4 : decode cX4_toEnd 4 = .ok (.iload_n 1, 1) := by decide +kernel
theorem dX4_toEnd_5 : decode cX4_toEnd 5 = .ok (.invokevirtual 86, 3) := by decide +kernel
theorem dX4_toEnd_8 : decode cX4_toEnd 8 = .ok (.istore_n 2, 1) := by decide +kernel
theorem dX4_toEnd_9 : decode cX4_toEnd 9 = .ok (.iload_n 2, 1) := by decide +kernel
theorem dX4_toEnd_10 : decode cX4_toEnd 10 = .ok (.iconst (-1), 1) := by decide +kernel
theorem dX4_toEnd_11 : decode cX4_toEnd 11 = .ok (.if_icmp .ne 13, 3) := by decide +kernel
theorem dX4_toEnd_14 : decode cX4_toEnd 14 = .ok (.new 103, 3) := by decide +kernel
theorem dX4_toEnd_17 : decode cX4_toEnd 17 = .ok (.dup, 1) := by decide +kernel
theorem dX4_toEnd_18 : decode cX4_toEnd 18 = .ok (.ldc 135, 2) := by decide +kernel
theorem dX4_toEnd_20 : decode cX4_toEnd 20 = .ok (.invokespecial 107, 3) := by decide +kernel
theorem dX4_toEnd_23 : decode cX4_toEnd 23 = .ok (.athrow, 1) := by decide +kernel
theorem dX4_toEnd_24 : decode cX4_toEnd 24 = .ok (.aload_n 0, 1) := by decide +kernel
theorem dX4_toEnd_25 : decode cX4_toEnd 25 = .ok (.iconst 3, 1) := by decide +kernel
theorem dX4_toEnd_26 : decode cX4_toEnd 26 = .ok (.iconst (-1), 1) := by decide +kernel
theorem dX4_toEnd_27 : decode cX4_toEnd 27 = .ok (.invokevirtual 67, 3) := by decide +kernel
theorem dX4_toEnd_30 : decode cX4_toEnd 30 = .ok (.aload_n 0, 1) := by decide +kernel
theorem dX4_toEnd_31 : decode cX4_toEnd 31 = .ok (.getfield 24, 3) := by decide +kernel
theorem dX4_toEnd_34 : decode cX4_toEnd 34 = .ok (.iload_n 2, 1) := by decide +kernel
theorem dX4_toEnd_35 : decode cX4_toEnd 35 = .ok (.invokevirtual 93, 3) := by decide +kernel
theorem dX4_toEnd_38 : decode cX4_toEnd 38 = .ok (.istore_n 3, 1) := by decide +kernel
theorem dX4_toEnd_39 : decode cX4_toEnd 39 = .ok (.aload_n 0, 1) := by decide +kernel
theorem dX4_toEnd_40 : decode cX4_toEnd 40 = .ok (.getfield 24, 3) := by decide +kernel
theorem dX4_toEnd_43 : decode cX4_toEnd 43 = .ok (.iload_n 2, 1) := by decide +kernel
theorem dX4_toEnd_44 : decode cX4_toEnd 44 = .ok (.invokevirtual 96, 3) := by decide +kernel
theorem dX4_toEnd_47 : decode cX4_toEnd 47 = .ok (.aload_n 0, 1) := by decide +kernel
theorem dX4_toEnd_48 : decode cX4_toEnd 48 = .ok (.getfield 24, 3) := by decide +kernel
theorem dX4_toEnd_51 : decode cX4_toEnd 51 = .ok (.iload_n 1, 1) := by decide +kernel
theorem dX4_toEnd_52 : decode cX4_toEnd 52 = .ok (.iload_n 3, 1) := by decide +kernel
theorem dX4_toEnd_53 : decode cX4_toEnd 53 = .ok (.invokevirtual 90, 3) := by decide +kernel
theorem dX4_toEnd_56 : decode cX4_toEnd 56 = .ok (.iload_n 2, 1) := by decide +kernel
theorem dX4_toEnd_57 : decode cX4_toEnd 57 = .ok (.ireturn, 1) := by decide +kernel
theorem dX4_open_0 : decode cX4_open 0 = .ok (.aload_n 0, 1) := by decide +kernel
theorem dX4_open_1 : decode cX4_open 1 = .ok (.iload_n 1, 1) := by decide +kernel
theorem dX4_open_2 : decode cX4_open 2 = .ok (.invokevirtual 137, 3) := by decide +kernel
theorem dX4_open_5 : decode cX4_open 5 = .ok (.astore 4, 2) := by decide +kernel
theorem dX4_open_7 : decode cX4_open 7 = .ok (.aload_n 0, 1) := by decide +kernel
theorem dX4_open_8 : decode cX4_open 8 = .ok (.iload_n 2, 1) := by decide +kernel
theorem dX4_open_9 : decode cX4_open 9 = .ok (.invokevirtual 113, 3) := by decide +kernel
theorem dX4_open_12 : decode cX4_open 12 = .ok (.astore 5, 2) := by decide +kernel
theorem dX4_open_14 : decode cX4_open 14 = .ok (.aload_n 0, 1) := by decide +kernel
theorem dX4_open_15 : decode cX4_open 15 = .ok (.iload_n 3, 1) := by decide +kernel
theorem dX4_open_16 : decode cX4_open 16 = .ok (.invokevirtual 141, 3) := by decide +kernel
theorem dX4_open_19 : decode cX4_open 19 = .ok (.aload 4, 2) := by decide +kernel
theorem dX4_open_21 : decode cX4_open 21 = .ok (.iload_n 2, 1) := by decide +kernel
theorem dX4_open_22 : decode cX4_open 22 = .ok (.iload_n 3, 1) := by decide +kernel
theorem dX4_open_23 : decode cX4_open 23 = .ok (.invokevirtual 144, 3) := by decide +kernel
theorem dX4_open_26 : decode cX4_open 26 = .ok (.aload 5, 2) := by decide +kernel
theorem dX4_open_28 : decode cX4_open 28 = .ok (.getfield 57, 3) := by decide +kernel
theorem dX4_open_31 : decode cX4_open 31 = .ok (.ireturn, 1) := by decide +kernel
theorem dX4_hasNext_0 : decode cX4_hasNext 0 = .ok (.aload_n 0, 1) := by decide +kernel
theorem dX4_hasNext_1 : decode cX4_hasNext 1 = .ok (.iload_n 1, 1) := by decide +kernel
theorem dX4_hasNext_2 : decode cX4_hasNext 2 = .ok (.invokevirtual 147, 3) := by decide +kernel
theorem dX4_hasNext_5 : decode cX4_hasNext 5 = .ok (.astore_n 2, 1) := by decide +kernel
theorem dX4_hasNext_6 : decode cX4_hasNext 6 = .ok (.aload_n 2, 1) := by decide +kernel
theorem dX4_hasNext_7 : decode cX4_hasNext 7 = .ok (.getfield 150, 3) := by decide +kernel
theorem dX4_hasNext_10 : decode cX4_hasNext 10 = .ok (.aload_n 0, 1) := by decide +kernel
theorem dX4_hasNext_11 : decode cX4_hasNext 11 = .ok (.aload_n 2, 1) := by decide +kernel
theorem dX4_hasNext_12 : decode cX4_hasNext 12 = .ok (.getfield 153, 3) := by decide +kernel
theorem dX4_hasNext_15 : decode cX4_hasNext 15 = .ok (.invokevirtual 113, 3) := by decide +kernel
theorem dX4_hasNext_18 : decode cX4_hasNext 18 = .ok (.getfield 57, 3) := by decide +kernel
theorem dX4_hasNext_21 : decode cX4_hasNext 21 = .ok (.if_icmp .ge 7, 3) := by decide +kernel
theorem dX4_hasNext_24 : decode cX4_hasNext 24 = .ok (.iconst 1, 1) := by decide +kernel
theorem dX4_hasNext_25 : decode cX4_hasNext 25 = .ok (.goto 4, 3) := by decide +kernel
theorem dX4_hasNext_28 : decode cX4_hasNext 28 = .ok (.iconst 0, 1) := by decide +kernel
theorem dX4_hasNext_29 : decode cX4_hasNext 29 = .ok (.ireturn, 1) := by decide +kernel
theorem dX4_next_0 : decode cX4_next 0 = .ok (.aload_n 0, 1) := by decide +kernel
theorem dX4_next_1 : decode cX4_next 1 = .ok (.iload_n 1, 1) := by decide +kernel
theorem dX4_next_2 : decode cX4_next 2 = .ok (.invokevirtual 147, 3) := by decide +kernel
theorem dX4_next_5 : decode cX4_next 5 = .ok (.astore_n 2, 1) := by decide +kernel
theorem dX4_next_6 : decode cX4_next 6 = .ok (.aload_n 0, 1) := by decide +kernel
theorem dX4_next_7 : decode cX4_next 7 = .ok (.aload_n 2, 1) := by decide +kernel
theorem dX4_next_8 : decode cX4_next 8 = .ok (.getfield 153, 3) := by decide +kernel
theorem dX4_next_11 : decode cX4_next 11 = .ok (.invokevirtual 113, 3) := by decide +kernel
theorem dX4_next_14 : decode cX4_next 14 = .ok (.astore_n 3, 1) := by decide +kernel
theorem dX4_next_15 : decode cX4_next 15 = .ok (.aload_n 2, 1) := by decide +kernel
theorem dX4_next_16 : decode cX4_next 16 = .ok (.getfield 150, 3) := by decide +kernel
theorem dX4_next_19 : decode cX4_next 19 = .ok (.istore 4, 2) := by decide +kernel
theorem dX4_next_21 : decode cX4_next 21 = .ok (.iload 4, 2) := by decide +kernel
theorem dX4_next_23 : decode cX4_next 23 = .ok (.aload_n 3, 1) := by decide +kernel
theorem dX4_next_24 : decode cX4_next 24 = .ok (.getfield 57, 3) := by decide +kernel
theorem dX4_next_27 : decode cX4_next 27 = .ok (.if_icmp .lt 13, 3) := by decide +kernel
theorem dX4_next_30 : decode cX4_next 30 = .ok (.new 103, 3) := by decide +kernel
theorem dX4_next_33 : decode cX4_next 33 = .ok (.dup, 1) := by decide +kernel
theorem dX4_next_34 : decode cX4_next 34 = .ok (.ldc 156, 2) := by decide +kernel
theorem dX4_next_36 : decode cX4_next 36 = .ok (.invokespecial 107, 3) := by decide +kernel
theorem dX4_next_39 : decode cX4_next 39 = .ok (.athrow, 1) := by decide +kernel
theorem dX4_next_40 : decode cX4_next 40 = .ok (.aload_n 2, 1) := by decide +kernel
theorem dX4_next_41 : decode cX4_next 41 = .ok (.invokevirtual 158, 3) := by decide +kernel
theorem dX4_next_44 : decode cX4_next 44 = .ok (.aload_n 2, 1) := by decide +kernel
theorem dX4_next_45 : decode cX4_next 45 = .ok (.getfield 161, 3) := by decide +kernel
theorem dX4_next_48 : decode cX4_next 48 = .ok (.iconst 1, 1) := by decide +kernel
theorem dX4_next_49 : decode cX4_next 49 = .ok (.if_icmp .ne 12, 3) := by decide +kernel
theorem dX4_next_52 : decode cX4_next 52 = .ok (.aload_n 3, 1) := by decide +kernel
theorem dX4_next_53 : decode cX4_next 53 = .ok (.iload 4, 2) := by decide +kernel
theorem dX4_next_55 : decode cX4_next 55 = .ok (.invokevirtual 93, 3) := by decide +kernel
theorem dX4_next_58 : decode cX4_next 58 = .ok (.goto 9, 3) := by decide +kernel
theorem dX4_next_61 : decode cX4_next 61 = .ok (.aload_n 3, 1) := by decide +kernel
theorem dX4_next_62 : decode cX4_next 62 = .ok (.iload 4, 2) := by decide +kernel
theorem dX4_next_64 : decode cX4_next 64 = .ok (.invokevirtual 132, 3) := by decide +kernel
theorem dX4_next_67 : decode cX4_next 67 = .ok (.ireturn, 1) := by decide +kernel
theorem dX4_removeAt_0 : decode cX4_removeAt 0 = .ok (.aload_n 0, 1) := by decide +kernel
theorem dX4_removeAt_1 : decode cX4_removeAt 1 = .ok (.iload_n 1, 1) := by decide +kernel
theorem dX4_removeAt_2 : decode cX4_removeAt 2 = .ok (.invokevirtual 137, 3) := by decide +kernel
theorem dX4_removeAt_5 : decode cX4_removeAt 5 = .ok (.astore_n 2, 1) := by decide +kernel
theorem dX4_removeAt_6 : decode cX4_removeAt 6 = .ok (.aload_n 0, 1) := by decide +kernel
theorem dX4_removeAt_7 : decode cX4_removeAt 7 = .ok (.aload_n 2, 1) := by decide +kernel
theorem dX4_removeAt_8 : decode cX4_removeAt 8 = .ok (.invokevirtual 164, 3) := by decide +kernel
theorem dX4_removeAt_11 : decode cX4_removeAt 11 = .ok (.aload_n 0, 1) := by decide +kernel
theorem dX4_removeAt_12 : decode cX4_removeAt 12 = .ok (.aload_n 2, 1) := by decide +kernel
theorem dX4_removeAt_13 : decode cX4_removeAt 13 = .ok (.getfield 153, 3) := by decide +kernel
theorem dX4_removeAt_16 : decode cX4_removeAt 16 = .ok (.invokevirtual 113, 3) := by decide +kernel
theorem dX4_removeAt_19 : decode cX4_removeAt 19 = .ok (.astore_n 3, 1) := by decide +kernel
theorem dX4_removeAt_20 : decode cX4_removeAt 20 = .ok (.aload_n 3, 1) := by decide +kernel
theorem dX4_removeAt_21 : decode cX4_removeAt 21 = .ok (.aload_n 2, 1) := by decide +kernel
theorem dX4_removeAt_22 : decode cX4_removeAt 22 = .ok (.invokevirtual 168, 3) := by decide +kernel
theorem dX4_removeAt_25 : decode cX4_removeAt 25 = .ok (.invokevirtual 96, 3) := by decide +kernel
theorem dX4_removeAt_28 : decode cX4_removeAt 28 = .ok (.aload_n 2, 1) := by decide +kernel
theorem dX4_removeAt_29 : decode cX4_removeAt 29 = .ok (.invokevirtual 172, 3) := by decide +kernel
theorem dX4_removeAt_32 : decode cX4_removeAt 32 = .ok (.aload_n 0, 1) := by decide +kernel
theorem dX4_removeAt_33 : decode cX4_removeAt 33 = .ok (.aload_n 2, 1) := by decide +kernel
theorem dX4_removeAt_34 : decode cX4_removeAt 34 = .ok (.getfield 153, 3) := by decide +kernel
theorem dX4_removeAt_37 : decode cX4_removeAt 37 = .ok (.iload_n 1, 1) := by decide +kernel
theorem dX4_removeAt_38 : decode cX4_removeAt 38 = .ok (.invokevirtual 67, 3) := by decide +kernel
theorem dX4_removeAt_41 : decode cX4_removeAt 41 = .ok (.aload_n 3, 1) := by decide +kernel
theorem dX4_removeAt_42 : decode cX4_removeAt 42 = .ok (.getfield 57, 3) := by decide +kernel
theorem dX4_removeAt_45 : decode cX4_removeAt 45 = .ok (.ireturn, 1) := by decide +kernel
theorem dX4_setAt_0 : decode cX4_setAt 0 = .ok (.aload_n 0, 1) := by decide +kernel
theorem dX4_setAt_1 : decode cX4_setAt 1 = .ok (.iload_n 1, 1) := by decide +kernel
theorem dX4_setAt_2 : decode cX4_setAt 2 = .ok (.invokevirtual 137, 3) := by decide +kernel
theorem dX4_setAt_5 : decode cX4_setAt 5 = .ok (.astore_n 3, 1) := by decide +kernel
theorem dX4_setAt_6 : decode cX4_setAt 6 = .ok (.aload_n 3, 1) := by decide +kernel
theorem dX4_setAt_7 : decode cX4_setAt 7 = .ok (.getfield 153, 3) := by decide +kernel
theorem dX4_setAt_10 : decode cX4_setAt 10 = .ok (.iconst (-1), 1) := by decide +kernel
theorem dX4_setAt_11 : decode cX4_setAt 11 = .ok (.if_icmp .eq 21, 3) := by decide +kernel
theorem dX4_setAt_14 : decode cX4_setAt 14 = .ok (.aload_n 3, 1) := by decide +kernel
theorem dX4_setAt_15 : decode cX4_setAt 15 = .ok (.getfield 161, 3) := by decide +kernel
theorem dX4_setAt_18 : decode cX4_setAt 18 = .ok (.iconst 2, 1) := by decide +kernel
theorem dX4_setAt_19 : decode cX4_setAt 19 = .ok (.if_icmp .eq 13, 3) := by decide +kernel
theorem dX4_setAt_22 : decode cX4_setAt 22 = .ok (.new 50, 3) := by decide +kernel
theorem dX4_setAt_25 : decode cX4_setAt 25 = .ok (.dup, 1) := by decide +kernel
theorem dX4_setAt_26 : decode cX4_setAt 26 = .ok (.ldc 175, 2) := by decide +kernel
theorem dX4_setAt_28 : decode cX4_setAt 28 = .ok (.invokespecial 54, 3) := by decide +kernel
theorem dX4_setAt_31 : decode cX4_setAt 31 = .ok (.athrow, 1) := by decide +kernel
theorem dX4_setAt_32 : decode cX4_setAt 32 = .ok (.aload_n 0, 1) := by decide +kernel
theorem dX4_setAt_33 : decode cX4_setAt 33 = .ok (.aload_n 3, 1) := by decide +kernel
theorem dX4_setAt_34 : decode cX4_setAt 34 = .ok (.invokevirtual 164, 3) := by decide +kernel
theorem dX4_setAt_37 : decode cX4_setAt 37 = .ok (.aload_n 0, 1) := by decide +kernel
theorem dX4_setAt_38 : decode cX4_setAt 38 = .ok (.aload_n 3, 1) := by decide +kernel
theorem dX4_setAt_39 : decode cX4_setAt 39 = .ok (.getfield 153, 3) := by decide +kernel
theorem dX4_setAt_42 : decode cX4_setAt 42 = .ok (.invokevirtual 113, 3) := by decide +kernel
theorem dX4_setAt_45 : decode cX4_setAt 45 = .ok (.astore 4, 2) := by decide +kernel
theorem dX4_setAt_47 : decode cX4_setAt 47 = .ok (.aload 4, 2) := by decide +kernel
theorem dX4_setAt_49 : decode cX4_setAt 49 = .ok (.aload_n 3, 1) := by decide +kernel
theorem dX4_setAt_50 : decode cX4_setAt 50 = .ok (.invokevirtual 168, 3) := by decide +kernel
theorem dX4_setAt_53 : decode cX4_setAt 53 = .ok (.invokevirtual 93, 3) := by decide +kernel
theorem dX4_setAt_56 : decode cX4_setAt 56 = .ok (.istore 5, 2) := by decide +kernel
theorem dX4_setAt_58 : decode cX4_setAt 58 = .ok (.aload 4, 2) := by decide +kernel
theorem dX4_setAt_60 : decode cX4_setAt 60 = .ok (.aload_n 3, 1) := by decide +kernel
theorem dX4_setAt_61 : decode cX4_setAt 61 = .ok (.invokevirtual 168, 3) := by decide +kernel
theorem dX4_setAt_64 : decode cX4_setAt 64 = .ok (.iload_n 2, 1) := by decide +kernel
theorem dX4_setAt_65 : decode cX4_setAt 65 = .ok (.invokevirtual 100, 3) := by decide +kernel
theorem dX4_setAt_68 : decode cX4_setAt 68 = .ok (.aload_n 0, 1) := by decide +kernel
theorem dX4_setAt_69 : decode cX4_setAt 69 = .ok (.aload_n 3, 1) := by decide +kernel
theorem dX4_setAt_70 : decode cX4_setAt 70 = .ok (.getfield 153, 3) := by decide +kernel
theorem dX4_setAt_73 : decode cX4_setAt 73 = .ok (.iload_n 1, 1) := by decide +kernel
theorem dX4_setAt_74 : decode cX4_setAt 74 = .ok (.invokevirtual 67, 3) := by decide +kernel
theorem dX4_setAt_77 : decode cX4_setAt 77 = .ok (.iload 5, 2) := by decide +kernel
theorem dX4_setAt_79 : decode cX4_setAt 79 = .ok (.ireturn, 1) := by decide +kernel
theorem dX4_bookOf_0 : decode cX4_bookOf 0 = .ok (.aload_n 0, 1) := by decide +kernel
theorem dX4_bookOf_1 : decode cX4_bookOf 1 = .ok (.iload_n 1, 1) := by decide +kernel
theorem dX4_bookOf_2 : decode cX4_bookOf 2 = .ok (.invokevirtual 137, 3) := by decide +kernel
theorem dX4_bookOf_5 : decode cX4_bookOf 5 = .ok (.getfield 153, 3) := by decide +kernel
theorem dX4_bookOf_8 : decode cX4_bookOf 8 = .ok (.ireturn, 1) := by decide +kernel
theorem dX4_size_0 : decode cX4_size 0 = .ok (.aload_n 0, 1) := by decide +kernel
theorem dX4_size_1 : decode cX4_size 1 = .ok (.iload_n 1, 1) := by decide +kernel
theorem dX4_size_2 : decode cX4_size 2 = .ok (.invokevirtual 113, 3) := by decide +kernel
theorem dX4_size_5 : decode cX4_size 5 = .ok (.getfield 57, 3) := by decide +kernel
theorem dX4_size_8 : decode cX4_size 8 = .ok (.ireturn, 1) := by decide +kernel
theorem dX4_hasKey_0 : decode cX4_hasKey 0 = .ok (.aload_n 0, 1) := by decide +kernel
theorem dX4_hasKey_1 : decode cX4_hasKey 1 = .ok (.iload_n 1, 1) := by decide +kernel
theorem dX4_hasKey_2 : decode cX4_hasKey 2 = .ok (.invokevirtual 113, 3) := by decide +kernel
theorem dX4_hasKey_5 : decode cX4_hasKey 5 = .ok (.iload_n 2, 1) := by decide +kernel
theorem dX4_hasKey_6 : decode cX4_hasKey 6 = .ok (.invokevirtual 86, 3) := by decide +kernel
theorem dX4_hasKey_9 : decode cX4_hasKey 9 = .ok (.iconst (-1), 1) := by decide +kernel
theorem dX4_hasKey_10 : decode cX4_hasKey 10 = .ok (.if_icmp .eq 7, 3) := by decide +kernel
theorem dX4_hasKey_13 : decode cX4_hasKey 13 = .ok (.iconst 1, 1) := by decide +kernel
theorem dX4_hasKey_14 : decode cX4_hasKey 14 = .ok (.goto 4, 3) := by decide +kernel
theorem dX4_hasKey_17 : decode cX4_hasKey 17 = .ok (.iconst 0, 1) := by decide +kernel
theorem dX4_hasKey_18 : decode cX4_hasKey 18 = .ok (.ireturn, 1) := by decide +kernel
theorem dX4_hasValue_0 : decode cX4_hasValue 0 = .ok (.aload_n 0, 1) := by decide +kernel
theorem dX4_hasValue_1 : decode cX4_hasValue 1 = .ok (.iload_n 1, 1) := by decide +kernel
theorem dX4_hasValue_2 : decode cX4_hasValue 2 = .ok (.invokevirtual 113, 3) := by decide +kernel
theorem dX4_hasValue_5 : decode cX4_hasValue 5 = .ok (.iload_n 2, 1) := by decide +kernel
theorem dX4_hasValue_6 : decode cX4_hasValue 6 = .ok (.invokevirtual 177, 3) := by decide +kernel
theorem dX4_hasValue_9 : decode cX4_hasValue 9 = .ok (.ireturn, 1) := by decide +kernel
theorem dX4_get_0 : decode cX4_get 0 = .ok (.aload_n 0, 1) := by decide +kernel
theorem dX4_get_1 : decode cX4_get 1 = .ok (.iload_n 1, 1) := by decide +kernel
theorem dX4_get_2 : decode cX4_get 2 = .ok (.invokevirtual 113, 3) := by decide +kernel
theorem dX4_get_5 : decode cX4_get 5 = .ok (.astore 4, 2) := by decide +kernel
theorem dX4_get_7 : decode cX4_get 7 = .ok (.aload 4, 2) := by decide +kernel
theorem dX4_get_9 : decode cX4_get 9 = .ok (.iload_n 2, 1) := by decide +kernel
theorem dX4_get_10 : decode cX4_get 10 = .ok (.invokevirtual 86, 3) := by decide +kernel
theorem dX4_get_13 : decode cX4_get 13 = .ok (.istore 5, 2) := by decide +kernel
theorem dX4_get_15 : decode cX4_get 15 = .ok (.iload 5, 2) := by decide +kernel
theorem dX4_get_17 : decode cX4_get 17 = .ok (.iconst (-1), 1) := by decide +kernel
theorem dX4_get_18 : decode cX4_get 18 = .ok (.if_icmp .ne 7, 3) := by decide +kernel
theorem dX4_get_21 : decode cX4_get 21 = .ok (.iload_n 3, 1) := by decide +kernel
theorem dX4_get_22 : decode cX4_get 22 = .ok (.goto 10, 3) := by decide +kernel
theorem dX4_get_25 : decode cX4_get 25 = .ok (.aload 4, 2) := by decide +kernel
theorem dX4_get_27 : decode cX4_get 27 = .ok (.iload 5, 2) := by decide +kernel
theorem dX4_get_29 : decode cX4_get 29 = .ok (.invokevirtual 93, 3) := by decide +kernel
theorem dX4_get_32 : decode cX4_get 32 = .ok (.ireturn, 1) := by decide +kernel
theorem dX4_keyAt_0 : decode cX4_keyAt 0 = .ok (.aload_n 0, 1) := by decide +kernel
theorem dX4_keyAt_1 : decode cX4_keyAt 1 = .ok (.iload_n 1, 1) := by decide +kernel
theorem dX4_keyAt_2 : decode cX4_keyAt 2 = .ok (.invokevirtual 113, 3) := by decide +kernel
theorem dX4_keyAt_5 : decode cX4_keyAt 5 = .ok (.astore_n 3, 1) := by decide +kernel
theorem dX4_keyAt_6 : decode cX4_keyAt 6 = .ok (.aload_n 0, 1) := by decide +kernel
theorem dX4_keyAt_7 : decode cX4_keyAt 7 = .ok (.aload_n 3, 1) := by decide +kernel
theorem dX4_keyAt_8 : decode cX4_keyAt 8 = .ok (.iload_n 2, 1) := by decide +kernel
theorem dX4_keyAt_9 : decode cX4_keyAt 9 = .ok (.invokevirtual 181, 3) := by decide +kernel
theorem dX4_keyAt_12 : decode cX4_keyAt 12 = .ok (.aload_n 3, 1) := by decide +kernel
theorem dX4_keyAt_13 : decode cX4_keyAt 13 = .ok (.iload_n 2, 1) := by decide +kernel
theorem dX4_keyAt_14 : decode cX4_keyAt 14 = .ok (.invokevirtual 132, 3) := by decide +kernel
theorem dX4_keyAt_17 : decode cX4_keyAt 17 = .ok (.ireturn, 1) := by decide +kernel
theorem dX4_valueAt_0 : decode cX4_valueAt 0 = .ok (.aload_n 0, 1) := by decide +kernel
theorem dX4_valueAt_1 : decode cX4_valueAt 1 = .ok (.iload_n 1, 1) := by decide +kernel
theorem dX4_valueAt_2 : decode cX4_valueAt 2 = .ok (.invokevirtual 113, 3) := by decide +kernel
theorem dX4_valueAt_5 : decode cX4_valueAt 5 = .ok (.astore_n 3, 1) := by decide +kernel
theorem dX4_valueAt_6 : decode cX4_valueAt 6 = .ok (.aload_n 0, 1) := by decide +kernel
theorem dX4_valueAt_7 : decode cX4_valueAt 7 = .ok (.aload_n 3, 1) := by decide +kernel
theorem dX4_valueAt_8 : decode cX4_valueAt 8 = .ok (.iload_n 2, 1) := by decide +kernel
theorem dX4_valueAt_9 : decode cX4_valueAt 9 = .ok (.invokevirtual 181, 3) := by decide +kernel
theorem dX4_valueAt_12 : decode cX4_valueAt 12 = .ok (.aload_n 3, 1) := by decide +kernel
theorem dX4_valueAt_13 : decode cX4_valueAt 13 = .ok (.iload_n 2, 1) := by decide +kernel
theorem dX4_valueAt_14 : decode cX4_valueAt 14 = .ok (.invokevirtual 93, 3) := by decide +kernel
theorem dX4_valueAt_17 : decode cX4_valueAt 17 = .ok (.ireturn, 1) := by decide +kernel
theorem dX4_placeOf_0 : decode cX4_placeOf 0 = .ok (.aload_n 0, 1) := by decide +kernel
theorem dX4_placeOf_1 : decode cX4_placeOf 1 = .ok (.iload_n 1, 1) := by decide +kernel
theorem dX4_placeOf_2 : decode cX4_placeOf 2 = .ok (.invokevirtual 113, 3) := by decide +kernel
theorem dX4_placeOf_5 : decode cX4_placeOf 5 = .ok (.iload_n 2, 1) := by decide +kernel
theorem dX4_placeOf_6 : decode cX4_placeOf 6 = .ok (.invokevirtual 86, 3) := by decide +kernel
theorem dX4_placeOf_9 : decode cX4_placeOf 9 = .ok (.ireturn, 1) := by decide +kernel
theorem dX4_areEqual_0 : decode cX4_areEqual 0 = .ok (.aload_n 0, 1) := by decide +kernel
theorem dX4_areEqual_1 : decode cX4_areEqual 1 = .ok (.iload_n 1, 1) := by decide +kernel
theorem dX4_areEqual_2 : decode cX4_areEqual 2 = .ok (.invokevirtual 113, 3) := by decide +kernel
theorem dX4_areEqual_5 : decode cX4_areEqual 5 = .ok (.aload_n 0, 1) := by decide +kernel
theorem dX4_areEqual_6 : decode cX4_areEqual 6 = .ok (.iload_n 2, 1) := by decide +kernel
theorem dX4_areEqual_7 : decode cX4_areEqual 7 = .ok (.invokevirtual 113, 3) := by decide +kernel
theorem dX4_areEqual_10 : decode cX4_areEqual 10 = .ok (.invokevirtual 184, 3) := by decide +kernel
theorem dX4_areEqual_13 : decode cX4_areEqual 13 = .ok (.ireturn, 1) := by decide +kernel
theorem dX4_areAlike_0 : decode cX4_areAlike 0 = .ok (.aload_n 0, 1) := by decide +kernel
theorem dX4_areAlike_1 : decode cX4_areAlike 1 = .ok (.iload_n 1, 1) := by decide +kernel
theorem dX4_areAlike_2 : decode cX4_areAlike 2 = .ok (.invokevirtual 113, 3) := by decide +kernel
theorem dX4_areAlike_5 : decode cX4_areAlike 5 = .ok (.aload_n 0, 1) := by decide +kernel
theorem dX4_areAlike_6 : decode cX4_areAlike 6 = .ok (.iload_n 2, 1) := by decide +kernel
theorem dX4_areAlike_7 : decode cX4_areAlike 7 = .ok (.invokevirtual 113, 3) := by decide +kernel
theorem dX4_areAlike_10 : decode cX4_areAlike 10 = .ok (.invokevirtual 188, 3) := by decide +kernel
theorem dX4_areAlike_13 : decode cX4_areAlike 13 = .ok (.ireturn, 1) := by decide +kernel
theorem dX4_hash_0 : decode cX4_hash 0 = .ok (.aload_n 0, 1) := by decide +kernel
theorem dX4_hash_1 : decode cX4_hash 1 = .ok (.iload_n 1, 1) := by decide +kernel
theorem dX4_hash_2 : decode cX4_hash 2 = .ok (.invokevirtual 113, 3) := by decide +kernel
theorem dX4_hash_5 : decode cX4_hash 5 = .ok (.invokevirtual 191, 3) := by decide +kernel
theorem dX4_hash_8 : decode cX4_hash 8 = .ok (.ireturn, 1) := by decide +kernel
theorem dX4_sum_0 : decode cX4_sum 0 = .ok (.aload_n 0, 1) := by decide +kernel
theorem dX4_sum_1 : decode cX4_sum 1 = .ok (.iload_n 1, 1) := by decide +kernel
theorem dX4_sum_2 : decode cX4_sum 2 = .ok (.invokevirtual 113, 3) := by decide +kernel
theorem dX4_sum_5 : decode cX4_sum 5 = .ok (.astore_n 2, 1) := by decide +kernel
theorem dX4_sum_6 : decode cX4_sum 6 = .ok (.lconst 0, 1) := by decide +kernel
theorem dX4_sum_7 : decode cX4_sum 7 = .ok (.lstore_n 3, 1) := by decide +kernel
theorem dX4_sum_8 : decode cX4_sum 8 = .ok (.iconst 0, 1) := by decide +kernel
theorem dX4_sum_9 : decode cX4_sum 9 = .ok (.istore 5, 2) := by decide +kernel
theorem dX4_sum_11 : decode cX4_sum 11 = .ok (.iload 5, 2) := by decide +kernel
theorem dX4_sum_13 : decode cX4_sum 13 = .ok (.aload_n 2, 1) := by decide +kernel
theorem dX4_sum_14 : decode cX4_sum 14 = .ok (.getfield 57, 3) := by decide +kernel
theorem dX4_sum_17 : decode cX4_sum 17 = .ok (.if_icmp .ge 37, 3) := by decide +kernel
theorem dX4_sum_20 : decode cX4_sum 20 = .ok (.lload_n 3, 1) := by decide +kernel
theorem dX4_sum_21 : decode cX4_sum 21 = .ok (.iload 5, 2) := by decide +kernel
theorem dX4_sum_23 : decode cX4_sum 23 = .ok (.i2l, 1) := by decide +kernel
theorem dX4_sum_24 : decode cX4_sum 24 = .ok (.lconst 1, 1) := by decide +kernel
theorem dX4_sum_25 : decode cX4_sum 25 = .ok (.ladd, 1) := by decide +kernel
theorem dX4_sum_26 : decode cX4_sum 26 = .ok (.aload_n 2, 1) := by decide +kernel
theorem dX4_sum_27 : decode cX4_sum 27 = .ok (.iload 5, 2) := by decide +kernel
theorem dX4_sum_29 : decode cX4_sum 29 = .ok (.invokevirtual 132, 3) := by decide +kernel
theorem dX4_sum_32 : decode cX4_sum 32 = .ok (.i2l, 1) := by decide +kernel
theorem dX4_sum_33 : decode cX4_sum 33 = .ok (.ldc2_w 194, 3) := by decide +kernel
theorem dX4_sum_36 : decode cX4_sum 36 = .ok (.aload_n 2, 1) := by decide +kernel
theorem dX4_sum_37 : decode cX4_sum 37 = .ok (.iload 5, 2) := by decide +kernel
theorem dX4_sum_39 : decode cX4_sum 39 = .ok (.invokevirtual 93, 3) := by decide +kernel
theorem dX4_sum_42 : decode cX4_sum 42 = .ok (.i2l, 1) := by decide +kernel
theorem dX4_sum_43 : decode cX4_sum 43 = .ok (.lmul, 1) := by decide +kernel
theorem dX4_sum_44 : decode cX4_sum 44 = .ok (.ladd, 1) := by decide +kernel
theorem dX4_sum_45 : decode cX4_sum 45 = .ok (.lmul, 1) := by decide +kernel
theorem dX4_sum_46 : decode cX4_sum 46 = .ok (.ladd, 1) := by decide +kernel
theorem dX4_sum_47 : decode cX4_sum 47 = .ok (.lstore_n 3, 1) := by decide +kernel
theorem dX4_sum_48 : decode cX4_sum 48 = .ok (.iinc 5 1, 3) := by decide +kernel
theorem dX4_sum_51 : decode cX4_sum 51 = .ok (.goto (-40), 3) := by decide +kernel
theorem dX4_sum_54 : decode cX4_sum 54 = .ok (.lload_n 3, 1) := by decide +kernel
theorem dX4_sum_55 : decode cX4_sum 55 = .ok (.lreturn, 1) := by decide +kernel
theorem dX4_write_0 : decode cX4_write 0 = .ok (.aload_n 0, 1) := by decide +kernel
theorem dX4_write_1 : decode cX4_write 1 = .ok (.iload_n 1, 1) := by decide +kernel
theorem dX4_write_2 : decode cX4_write 2 = .ok (.invokevirtual 113, 3) := by decide +kernel
theorem dX4_write_5 : decode cX4_write 5 = .ok (.astore_n 2, 1) := by decide +kernel
theorem dX4_write_6 : decode cX4_write 6 = .ok (.aload_n 0, 1) := by decide +kernel
theorem dX4_write_7 : decode cX4_write 7 = .ok (.getfield 46, 3) := by decide +kernel
theorem dX4_write_10 : decode cX4_write 10 = .ok (.invokevirtual 196, 3) := by decide +kernel
theorem dX4_write_13 : decode cX4_write 13 = .ok (.aload_n 0, 1) := by decide +kernel
theorem dX4_write_14 : decode cX4_write 14 = .ok (.getfield 46, 3) := by decide +kernel
theorem dX4_write_17 : decode cX4_write 17 = .ok (.bipush 123, 2) := by decide +kernel
theorem dX4_write_19 : decode cX4_write 19 = .ok (.invokevirtual 199, 3) := by decide +kernel
theorem dX4_write_22 : decode cX4_write 22 = .ok (.iconst 0, 1) := by decide +kernel
theorem dX4_write_23 : decode cX4_write 23 = .ok (.istore_n 3, 1) := by decide +kernel
theorem dX4_write_24 : decode cX4_write 24 = .ok (.iload_n 3, 1) := by decide +kernel
theorem dX4_write_25 : decode cX4_write 25 = .ok (.aload_n 2, 1) := by decide +kernel
theorem dX4_write_26 : decode cX4_write 26 = .ok (.getfield 57, 3) := by decide +kernel
theorem dX4_write_29 : decode cX4_write 29 = .ok (.if_icmp .ge 64, 3) := by decide +kernel
theorem dX4_write_32 : decode cX4_write 32 = .ok (.iload_n 3, 1) := by decide +kernel
theorem dX4_write_33 : decode cX4_write 33 = .ok (.ifCond .le 21, 3) := by decide +kernel
theorem dX4_write_36 : decode cX4_write 36 = .ok (.aload_n 0, 1) := by decide +kernel
theorem dX4_write_37 : decode cX4_write 37 = .ok (.getfield 46, 3) := by decide +kernel
theorem dX4_write_40 : decode cX4_write 40 = .ok (.bipush 44, 2) := by decide +kernel
theorem dX4_write_42 : decode cX4_write 42 = .ok (.invokevirtual 199, 3) := by decide +kernel
theorem dX4_write_45 : decode cX4_write 45 = .ok (.aload_n 0, 1) := by decide +kernel
theorem dX4_write_46 : decode cX4_write 46 = .ok (.getfield 46, 3) := by decide +kernel
theorem dX4_write_49 : decode cX4_write 49 = .ok (.bipush 32, 2) := by decide +kernel
theorem dX4_write_51 : decode cX4_write 51 = .ok (.invokevirtual 199, 3) := by decide +kernel
theorem dX4_write_54 : decode cX4_write 54 = .ok (.aload_n 0, 1) := by decide +kernel
theorem dX4_write_55 : decode cX4_write 55 = .ok (.getfield 46, 3) := by decide +kernel
theorem dX4_write_58 : decode cX4_write 58 = .ok (.aload_n 2, 1) := by decide +kernel
theorem dX4_write_59 : decode cX4_write 59 = .ok (.iload_n 3, 1) := by decide +kernel
theorem dX4_write_60 : decode cX4_write 60 = .ok (.invokevirtual 132, 3) := by decide +kernel
theorem dX4_write_63 : decode cX4_write 63 = .ok (.invokevirtual 203, 3) := by decide +kernel
theorem dX4_write_66 : decode cX4_write 66 = .ok (.aload_n 0, 1) := by decide +kernel
theorem dX4_write_67 : decode cX4_write 67 = .ok (.getfield 46, 3) := by decide +kernel
theorem dX4_write_70 : decode cX4_write 70 = .ok (.bipush 61, 2) := by decide +kernel
theorem dX4_write_72 : decode cX4_write 72 = .ok (.invokevirtual 199, 3) := by decide +kernel
theorem dX4_write_75 : decode cX4_write 75 = .ok (.aload_n 0, 1) := by decide +kernel
theorem dX4_write_76 : decode cX4_write 76 = .ok (.getfield 46, 3) := by decide +kernel
theorem dX4_write_79 : decode cX4_write 79 = .ok (.aload_n 2, 1) := by decide +kernel
theorem dX4_write_80 : decode cX4_write 80 = .ok (.iload_n 3, 1) := by decide +kernel
theorem dX4_write_81 : decode cX4_write 81 = .ok (.invokevirtual 93, 3) := by decide +kernel
theorem dX4_write_84 : decode cX4_write 84 = .ok (.invokevirtual 203, 3) := by decide +kernel
theorem dX4_write_87 : decode cX4_write 87 = .ok (.iinc 3 1, 3) := by decide +kernel
theorem dX4_write_90 : decode cX4_write 90 = .ok (.goto (-66), 3) := by decide +kernel
theorem dX4_write_93 : decode cX4_write 93 = .ok (.aload_n 0, 1) := by decide +kernel
theorem dX4_write_94 : decode cX4_write 94 = .ok (.getfield 46, 3) := by decide +kernel
theorem dX4_write_97 : decode cX4_write 97 = .ok (.bipush 125, 2) := by decide +kernel
theorem dX4_write_99 : decode cX4_write 99 = .ok (.invokevirtual 199, 3) := by decide +kernel
theorem dX4_write_102 : decode cX4_write 102 = .ok (.aload_n 0, 1) := by decide +kernel
theorem dX4_write_103 : decode cX4_write 103 = .ok (.getfield 46, 3) := by decide +kernel
theorem dX4_write_106 : decode cX4_write 106 = .ok (.getfield 206, 3) := by decide +kernel
theorem dX4_write_109 : decode cX4_write 109 = .ok (.ireturn, 1) := by decide +kernel
theorem dX4_outputAt_0 : decode cX4_outputAt 0 = .ok (.aload_n 0, 1) := by decide +kernel
theorem dX4_outputAt_1 : decode cX4_outputAt 1 = .ok (.getfield 46, 3) := by decide +kernel
theorem dX4_outputAt_4 : decode cX4_outputAt 4 = .ok (.iload_n 1, 1) := by decide +kernel
theorem dX4_outputAt_5 : decode cX4_outputAt 5 = .ok (.invokevirtual 209, 3) := by decide +kernel
theorem dX4_outputAt_8 : decode cX4_outputAt 8 = .ok (.ifCond .ne 13, 3) := by decide +kernel
theorem dX4_outputAt_11 : decode cX4_outputAt 11 = .ok (.new 103, 3) := by decide +kernel
theorem dX4_outputAt_14 : decode cX4_outputAt 14 = .ok (.dup, 1) := by decide +kernel
theorem dX4_outputAt_15 : decode cX4_outputAt 15 = .ok (.ldc 212, 2) := by decide +kernel
theorem dX4_outputAt_17 : decode cX4_outputAt 17 = .ok (.invokespecial 107, 3) := by decide +kernel
theorem dX4_outputAt_20 : decode cX4_outputAt 20 = .ok (.athrow, 1) := by decide +kernel
theorem dX4_outputAt_21 : decode cX4_outputAt 21 = .ok (.aload_n 0, 1) := by decide +kernel
theorem dX4_outputAt_22 : decode cX4_outputAt 22 = .ok (.getfield 46, 3) := by decide +kernel
theorem dX4_outputAt_25 : decode cX4_outputAt 25 = .ok (.iload_n 1, 1) := by decide +kernel
theorem dX4_outputAt_26 : decode cX4_outputAt 26 = .ok (.invokevirtual 214, 3) := by decide +kernel
theorem dX4_outputAt_29 : decode cX4_outputAt 29 = .ok (.ireturn, 1) := by decide +kernel
theorem dX4_isAddRefused_0 : decode cX4_isAddRefused 0 = .ok (.aload_n 0, 1) := by decide +kernel
theorem dX4_isAddRefused_1 : decode cX4_isAddRefused 1 = .ok (.iload_n 1, 1) := by decide +kernel
theorem dX4_isAddRefused_2 : decode cX4_isAddRefused 2 = .ok (.invokevirtual 113, 3) := by decide +kernel
theorem dX4_isAddRefused_5 : decode cX4_isAddRefused 5 = .ok (.pop, 1) := by decide +kernel
theorem dX4_isAddRefused_6 : decode cX4_isAddRefused 6 = .ok (.aload_n 0, 1) := by decide +kernel
theorem dX4_isAddRefused_7 : decode cX4_isAddRefused 7 = .ok (.iload_n 2, 1) := by decide +kernel
theorem dX4_isAddRefused_8 : decode cX4_isAddRefused 8 = .ok (.invokevirtual 141, 3) := by decide +kernel
theorem dX4_isAddRefused_11 : decode cX4_isAddRefused 11 = .ok (.iconst 1, 1) := by decide +kernel
theorem dX4_isAddRefused_12 : decode cX4_isAddRefused 12 = .ok (.ireturn, 1) := by decide +kernel
theorem dX4_isNothingRefused_0 : decode cX4_isNothingRefused 0 = .ok (.aload_n 0, 1) := by decide +kernel
theorem dX4_isNothingRefused_1 : decode cX4_isNothingRefused 1 = .ok (.iload_n 1, 1) := by decide +kernel
theorem dX4_isNothingRefused_2 : decode cX4_isNothingRefused 2 = .ok (.invokevirtual 83, 3) := by decide +kernel
theorem dX4_isNothingRefused_5 : decode cX4_isNothingRefused 5 = .ok (.pop, 1) := by decide +kernel
theorem dX4_isNothingRefused_6 : decode cX4_isNothingRefused 6 = .ok (.iconst 1, 1) := by decide +kernel
theorem dX4_isNothingRefused_7 : decode cX4_isNothingRefused 7 = .ok (.ireturn, 1) := by decide +kernel
theorem dX4_mean_0 : decode cX4_mean 0 = .ok (.aload_n 0, 1) := by decide +kernel
theorem dX4_mean_1 : decode cX4_mean 1 = .ok (.iload_n 1, 1) := by decide +kernel
theorem dX4_mean_2 : decode cX4_mean 2 = .ok (.invokevirtual 113, 3) := by decide +kernel
theorem dX4_mean_5 : decode cX4_mean 5 = .ok (.astore_n 2, 1) := by decide +kernel
theorem dX4_mean_6 : decode cX4_mean 6 = .ok (.aload_n 2, 1) := by decide +kernel
theorem dX4_mean_7 : decode cX4_mean 7 = .ok (.getfield 57, 3) := by decide +kernel
theorem dX4_mean_10 : decode cX4_mean 10 = .ok (.ifCond .ne 5, 3) := by decide +kernel
theorem dX4_mean_13 : decode cX4_mean 13 = .ok (.dconst 0, 1) := by decide +kernel
theorem dX4_mean_14 : decode cX4_mean 14 = .ok (.dreturn, 1) := by decide +kernel
theorem dX4_mean_15 : decode cX4_mean 15 = .ok (.lconst 0, 1) := by decide +kernel
theorem dX4_mean_16 : decode cX4_mean 16 = .ok (.lstore_n 3, 1) := by decide +kernel
theorem dX4_mean_17 : decode cX4_mean 17 = .ok (.iconst 0, 1) := by decide +kernel
theorem dX4_mean_18 : decode cX4_mean 18 = .ok (.istore 5, 2) := by decide +kernel
theorem dX4_mean_20 : decode cX4_mean 20 = .ok (.iload 5, 2) := by decide +kernel
theorem dX4_mean_22 : decode cX4_mean 22 = .ok (.aload_n 2, 1) := by decide +kernel
theorem dX4_mean_23 : decode cX4_mean 23 = .ok (.getfield 57, 3) := by decide +kernel
theorem dX4_mean_26 : decode cX4_mean 26 = .ok (.if_icmp .ge 19, 3) := by decide +kernel
theorem dX4_mean_29 : decode cX4_mean 29 = .ok (.lload_n 3, 1) := by decide +kernel
theorem dX4_mean_30 : decode cX4_mean 30 = .ok (.aload_n 2, 1) := by decide +kernel
theorem dX4_mean_31 : decode cX4_mean 31 = .ok (.iload 5, 2) := by decide +kernel
theorem dX4_mean_33 : decode cX4_mean 33 = .ok (.invokevirtual 93, 3) := by decide +kernel
theorem dX4_mean_36 : decode cX4_mean 36 = .ok (.i2l, 1) := by decide +kernel
theorem dX4_mean_37 : decode cX4_mean 37 = .ok (.ladd, 1) := by decide +kernel
theorem dX4_mean_38 : decode cX4_mean 38 = .ok (.lstore_n 3, 1) := by decide +kernel
theorem dX4_mean_39 : decode cX4_mean 39 = .ok (.iinc 5 1, 3) := by decide +kernel
theorem dX4_mean_42 : decode cX4_mean 42 = .ok (.goto (-22), 3) := by decide +kernel
theorem dX4_mean_45 : decode cX4_mean 45 = .ok (.lload_n 3, 1) := by decide +kernel
theorem dX4_mean_46 : decode cX4_mean 46 = .ok (.l2d, 1) := by decide +kernel
theorem dX4_mean_47 : decode cX4_mean 47 = .ok (.aload_n 2, 1) := by decide +kernel
theorem dX4_mean_48 : decode cX4_mean 48 = .ok (.getfield 57, 3) := by decide +kernel
theorem dX4_mean_51 : decode cX4_mean 51 = .ok (.i2d, 1) := by decide +kernel
theorem dX4_mean_52 : decode cX4_mean 52 = .ok (.ddiv, 1) := by decide +kernel
theorem dX4_mean_53 : decode cX4_mean 53 = .ok (.dreturn, 1) := by decide +kernel
theorem dX4_fullness_0 : decode cX4_fullness 0 = .ok (.aload_n 0, 1) := by decide +kernel
theorem dX4_fullness_1 : decode cX4_fullness 1 = .ok (.getfield 21, 3) := by decide +kernel
theorem dX4_fullness_4 : decode cX4_fullness 4 = .ok (.getfield 64, 3) := by decide +kernel
theorem dX4_fullness_7 : decode cX4_fullness 7 = .ok (.ifCond .ne 5, 3) := by decide +kernel
theorem dX4_fullness_10 : decode cX4_fullness 10 = .ok (.fconst 0, 1) := by decide +kernel
theorem dX4_fullness_11 : decode cX4_fullness 11 = .ok (.freturn, 1) := by decide +kernel
theorem dX4_fullness_12 : decode cX4_fullness 12 = .ok (.aload_n 0, 1) := by decide +kernel
theorem dX4_fullness_13 : decode cX4_fullness 13 = .ok (.getfield 21, 3) := by decide +kernel
theorem dX4_fullness_16 : decode cX4_fullness 16 = .ok (.getfield 57, 3) := by decide +kernel
theorem dX4_fullness_19 : decode cX4_fullness 19 = .ok (.i2f, 1) := by decide +kernel
theorem dX4_fullness_20 : decode cX4_fullness 20 = .ok (.aload_n 0, 1) := by decide +kernel
theorem dX4_fullness_21 : decode cX4_fullness 21 = .ok (.getfield 21, 3) := by decide +kernel
theorem dX4_fullness_24 : decode cX4_fullness 24 = .ok (.getfield 64, 3) := by decide +kernel
theorem dX4_fullness_27 : decode cX4_fullness 27 = .ok (.i2f, 1) := by decide +kernel
theorem dX4_fullness_28 : decode cX4_fullness 28 = .ok (.fdiv, 1) := by decide +kernel
theorem dX4_fullness_29 : decode cX4_fullness 29 = .ok (.freturn, 1) := by decide +kernel
theorem dX4_errors_0 : decode cX4_errors 0 = .ok (.iconst 0, 1) := by decide +kernel
theorem dX4_errors_1 : decode cX4_errors 1 = .ok (.istore_n 1, 1) := by decide +kernel
theorem dX4_errors_2 : decode cX4_errors 2 = .ok (.iconst 0, 1) := by decide +kernel
theorem dX4_errors_3 : decode cX4_errors 3 = .ok (.istore_n 2, 1) := by decide +kernel
theorem dX4_errors_4 : decode cX4_errors 4 = .ok (.iload_n 2, 1) := by decide +kernel
theorem dX4_errors_5 : decode cX4_errors 5 = .ok (.iconst 4, 1) := by decide +kernel
theorem dX4_errors_6 : decode cX4_errors 6 = .ok (.if_icmp .ge 24, 3) := by decide +kernel
theorem dX4_errors_9 : decode cX4_errors 9 = .ok (.aload_n 0, 1) := by decide +kernel
theorem dX4_errors_10 : decode cX4_errors 10 = .ok (.aload_n 0, 1) := by decide +kernel
theorem dX4_errors_11 : decode cX4_errors 11 = .ok (.iload_n 2, 1) := by decide +kernel
theorem dX4_errors_12 : decode cX4_errors 12 = .ok (.invokevirtual 113, 3) := by decide +kernel
theorem dX4_errors_15 : decode cX4_errors 15 = .ok (.invokevirtual 217, 3) := by decide +kernel
theorem dX4_errors_18 : decode cX4_errors 18 = .ok (.ifCond .ne 6, 3) := by decide +kernel
theorem dX4_errors_21 : decode cX4_errors 21 = .ok (.iinc 1 1, 3) := by decide +kernel
theorem dX4_errors_24 : decode cX4_errors 24 = .ok (.iinc 2 1, 3) := by decide +kernel
theorem dX4_errors_27 : decode cX4_errors 27 = .ok (.goto (-23), 3) := by decide +kernel
theorem dX4_errors_30 : decode cX4_errors 30 = .ok (.iload_n 1, 1) := by decide +kernel
theorem dX4_errors_31 : decode cX4_errors 31 = .ok (.ireturn, 1) := by decide +kernel
theorem dX4_isAsTheTheoremTells_0 : decode cX4_isAsTheTheoremTells 0 = .ok (.aload_n 1, 1) := by decide +kernel
theorem dX4_isAsTheTheoremTells_1 : decode cX4_isAsTheTheoremTells 1 = .ok (.getfield 220, 3) := by decide +kernel
theorem dX4_isAsTheTheoremTells_4 : decode cX4_isAsTheTheoremTells 4 = .ok (.aload_n 1, 1) := by decide +kernel
theorem dX4_isAsTheTheoremTells_5 : decode cX4_isAsTheTheoremTells 5 = .ok (.invokevirtual 224, 3) := by decide +kernel
theorem dX4_isAsTheTheoremTells_8 : decode cX4_isAsTheTheoremTells 8 = .ok (.ifCond .eq 23, 3) := by decide +kernel
theorem dX4_isAsTheTheoremTells_11 : decode cX4_isAsTheTheoremTells 11 = .ok (.aload_n 0, 1) := by decide +kernel
theorem dX4_isAsTheTheoremTells_12 : decode cX4_isAsTheTheoremTells 12 = .ok (.aload_n 1, 1) := by decide +kernel
theorem dX4_isAsTheTheoremTells_13 : decode cX4_isAsTheTheoremTells 13 = .ok (.invokevirtual 229, 3) := by decide +kernel
theorem dX4_isAsTheTheoremTells_16 : decode cX4_isAsTheTheoremTells 16 = .ok (.ifCond .eq 15, 3) := by decide +kernel
theorem dX4_isAsTheTheoremTells_19 : decode cX4_isAsTheTheoremTells 19 = .ok (.aload_n 0, 1) := by decide +kernel
theorem dX4_isAsTheTheoremTells_20 : decode cX4_isAsTheTheoremTells 20 = .ok (.aload_n 1, 1) := by decide +kernel
theorem dX4_isAsTheTheoremTells_21 : decode cX4_isAsTheTheoremTells 21 = .ok (.invokevirtual 232, 3) := by decide +kernel
theorem dX4_isAsTheTheoremTells_24 : decode cX4_isAsTheTheoremTells 24 = .ok (.ifCond .eq 7, 3) := by decide +kernel
theorem dX4_isAsTheTheoremTells_27 : decode cX4_isAsTheTheoremTells 27 = .ok (.iconst 1, 1) := by decide +kernel
theorem dX4_isAsTheTheoremTells_28 : decode cX4_isAsTheTheoremTells 28 = .ok (.goto 4, 3) := by decide +kernel
theorem dX4_isAsTheTheoremTells_31 : decode cX4_isAsTheTheoremTells 31 = .ok (.iconst 0, 1) := by decide +kernel
theorem dX4_isAsTheTheoremTells_32 : decode cX4_isAsTheTheoremTells 32 = .ok (.ireturn, 1) := by decide +kernel
theorem dX4_isCopyInOrder_0 : decode cX4_isCopyInOrder 0 = .ok (.aload_n 0, 1) := by decide +kernel
theorem dX4_isCopyInOrder_1 : decode cX4_isCopyInOrder 1 = .ok (.getfield 27, 3) := by decide +kernel
theorem dX4_isCopyInOrder_4 : decode cX4_isCopyInOrder 4 = .ok (.aload_n 1, 1) := by decide +kernel
theorem dX4_isCopyInOrder_5 : decode cX4_isCopyInOrder 5 = .ok (.invokevirtual 127, 3) := by decide +kernel
theorem dX4_isCopyInOrder_8 : decode cX4_isCopyInOrder 8 = .ok (.aload_n 0, 1) := by decide +kernel
theorem dX4_isCopyInOrder_9 : decode cX4_isCopyInOrder 9 = .ok (.getfield 27, 3) := by decide +kernel
theorem dX4_isCopyInOrder_12 : decode cX4_isCopyInOrder 12 = .ok (.aload_n 1, 1) := by decide +kernel
theorem dX4_isCopyInOrder_13 : decode cX4_isCopyInOrder 13 = .ok (.invokevirtual 188, 3) := by decide +kernel
theorem dX4_isCopyInOrder_16 : decode cX4_isCopyInOrder 16 = .ok (.ireturn, 1) := by decide +kernel
theorem dX4_isEqualInOppositeOrder_0 : decode cX4_isEqualInOppositeOrder 0 = .ok (.aload_n 0, 1) := by decide +kernel
theorem dX4_isEqualInOppositeOrder_1 : decode cX4_isEqualInOppositeOrder 1 = .ok (.getfield 27, 3) := by decide +kernel
theorem dX4_isEqualInOppositeOrder_4 : decode cX4_isEqualInOppositeOrder 4 = .ok (.invokevirtual 61, 3) := by decide +kernel
theorem dX4_isEqualInOppositeOrder_7 : decode cX4_isEqualInOppositeOrder 7 = .ok (.aload_n 1, 1) := by decide +kernel
theorem dX4_isEqualInOppositeOrder_8 : decode cX4_isEqualInOppositeOrder 8 = .ok (.getfield 57, 3) := by decide +kernel
theorem dX4_isEqualInOppositeOrder_11 : decode cX4_isEqualInOppositeOrder 11 = .ok (.iconst 1, 1) := by decide +kernel
theorem dX4_isEqualInOppositeOrder_12 : decode cX4_isEqualInOppositeOrder 12 = .ok (.isub, 1) := by decide +kernel
theorem dX4_isEqualInOppositeOrder_13 : decode cX4_isEqualInOppositeOrder 13 = .ok (.istore_n 2, 1) := by decide +kernel
theorem dX4_isEqualInOppositeOrder_14 : decode cX4_isEqualInOppositeOrder 14 = .ok (.iload_n 2, 1) := by decide +kernel
theorem dX4_isEqualInOppositeOrder_15 : decode cX4_isEqualInOppositeOrder 15 = .ok (.ifCond .lt 26, 3) := by decide +kernel
theorem dX4_isEqualInOppositeOrder_18 : decode cX4_isEqualInOppositeOrder 18 = .ok (.aload_n 0, 1) := by decide +kernel
theorem dX4_isEqualInOppositeOrder_19 : decode cX4_isEqualInOppositeOrder 19 = .ok (.getfield 27, 3) := by decide +kernel
theorem dX4_isEqualInOppositeOrder_22 : decode cX4_isEqualInOppositeOrder 22 = .ok (.aload_n 1, 1) := by decide +kernel
theorem dX4_isEqualInOppositeOrder_23 : decode cX4_isEqualInOppositeOrder 23 = .ok (.iload_n 2, 1) := by decide +kernel
theorem dX4_isEqualInOppositeOrder_24 : decode cX4_isEqualInOppositeOrder 24 = .ok (.invokevirtual 132, 3) := by decide +kernel
theorem dX4_isEqualInOppositeOrder_27 : decode cX4_isEqualInOppositeOrder 27 = .ok (.aload_n 1, 1) := by decide +kernel
theorem dX4_isEqualInOppositeOrder_28 : decode cX4_isEqualInOppositeOrder 28 = .ok (.iload_n 2, 1) := by decide +kernel
theorem dX4_isEqualInOppositeOrder_29 : decode cX4_isEqualInOppositeOrder 29 = .ok (.invokevirtual 93, 3) := by decide +kernel
theorem dX4_isEqualInOppositeOrder_32 : decode cX4_isEqualInOppositeOrder 32 = .ok (.invokevirtual 90, 3) := by decide +kernel
theorem dX4_isEqualInOppositeOrder_35 : decode cX4_isEqualInOppositeOrder 35 = .ok (.iinc 2 (-1), 3) := by decide +kernel
theorem dX4_isEqualInOppositeOrder_38 : decode cX4_isEqualInOppositeOrder 38 = .ok (.goto (-24), 3) := by decide +kernel
theorem dX4_isEqualInOppositeOrder_41 : decode cX4_isEqualInOppositeOrder 41 = .ok (.aload_n 0, 1) := by decide +kernel
theorem dX4_isEqualInOppositeOrder_42 : decode cX4_isEqualInOppositeOrder 42 = .ok (.getfield 27, 3) := by decide +kernel
theorem dX4_isEqualInOppositeOrder_45 : decode cX4_isEqualInOppositeOrder 45 = .ok (.aload_n 1, 1) := by decide +kernel
theorem dX4_isEqualInOppositeOrder_46 : decode cX4_isEqualInOppositeOrder 46 = .ok (.invokevirtual 184, 3) := by decide +kernel
theorem dX4_isEqualInOppositeOrder_49 : decode cX4_isEqualInOppositeOrder 49 = .ok (.ifCond .eq 21, 3) := by decide +kernel
theorem dX4_isEqualInOppositeOrder_52 : decode cX4_isEqualInOppositeOrder 52 = .ok (.aload_n 0, 1) := by decide +kernel
theorem dX4_isEqualInOppositeOrder_53 : decode cX4_isEqualInOppositeOrder 53 = .ok (.getfield 27, 3) := by decide +kernel
theorem dX4_isEqualInOppositeOrder_56 : decode cX4_isEqualInOppositeOrder 56 = .ok (.invokevirtual 191, 3) := by decide +kernel
theorem dX4_isEqualInOppositeOrder_59 : decode cX4_isEqualInOppositeOrder 59 = .ok (.aload_n 1, 1) := by decide +kernel
theorem dX4_isEqualInOppositeOrder_60 : decode cX4_isEqualInOppositeOrder 60 = .ok (.invokevirtual 191, 3) := by decide +kernel
theorem dX4_isEqualInOppositeOrder_63 : decode cX4_isEqualInOppositeOrder 63 = .ok (.if_icmp .ne 7, 3) := by decide +kernel
theorem dX4_isEqualInOppositeOrder_66 : decode cX4_isEqualInOppositeOrder 66 = .ok (.iconst 1, 1) := by decide +kernel
theorem dX4_isEqualInOppositeOrder_67 : decode cX4_isEqualInOppositeOrder 67 = .ok (.goto 4, 3) := by decide +kernel
theorem dX4_isEqualInOppositeOrder_70 : decode cX4_isEqualInOppositeOrder 70 = .ok (.iconst 0, 1) := by decide +kernel
theorem dX4_isEqualInOppositeOrder_71 : decode cX4_isEqualInOppositeOrder 71 = .ok (.ireturn, 1) := by decide +kernel
theorem dX4_bookOfNumber_0 : decode cX4_bookOfNumber 0 = .ok (.iload_n 1, 1) := by decide +kernel
theorem dX4_bookOfNumber_1 : decode cX4_bookOfNumber 1 = .ok (.tableswitch 51 0 3 #[31, 36, 41, 46], 31) := by decide +kernel
theorem dX4_bookOfNumber_32 : decode cX4_bookOfNumber 32 = .ok (.aload_n 0, 1) := by decide +kernel
theorem dX4_bookOfNumber_33 : decode cX4_bookOfNumber 33 = .ok (.getfield 14, 3) := by decide +kernel
theorem dX4_bookOfNumber_36 : decode cX4_bookOfNumber 36 = .ok (.areturn, 1) := by decide +kernel
theorem dX4_bookOfNumber_37 : decode cX4_bookOfNumber 37 = .ok (.aload_n 0, 1) := by decide +kernel
theorem dX4_bookOfNumber_38 : decode cX4_bookOfNumber 38 = .ok (.getfield 18, 3) := by decide +kernel
theorem dX4_bookOfNumber_41 : decode cX4_bookOfNumber 41 = .ok (.areturn, 1) := by decide +kernel
theorem dX4_bookOfNumber_42 : decode cX4_bookOfNumber 42 = .ok (.aload_n 0, 1) := by decide +kernel
theorem dX4_bookOfNumber_43 : decode cX4_bookOfNumber 43 = .ok (.getfield 21, 3) := by decide +kernel
theorem dX4_bookOfNumber_46 : decode cX4_bookOfNumber 46 = .ok (.areturn, 1) := by decide +kernel
theorem dX4_bookOfNumber_47 : decode cX4_bookOfNumber 47 = .ok (.aload_n 0, 1) := by decide +kernel
theorem dX4_bookOfNumber_48 : decode cX4_bookOfNumber 48 = .ok (.getfield 24, 3) := by decide +kernel
theorem dX4_bookOfNumber_51 : decode cX4_bookOfNumber 51 = .ok (.areturn, 1) := by decide +kernel
theorem dX4_bookOfNumber_52 : decode cX4_bookOfNumber 52 = .ok (.new 235, 3) := by decide +kernel
theorem dX4_bookOfNumber_55 : decode cX4_bookOfNumber 55 = .ok (.dup, 1) := by decide +kernel
theorem dX4_bookOfNumber_56 : decode cX4_bookOfNumber 56 = .ok (.ldc 237, 2) := by decide +kernel
theorem dX4_bookOfNumber_58 : decode cX4_bookOfNumber 58 = .ok (.invokespecial 239, 3) := by decide +kernel
theorem dX4_bookOfNumber_61 : decode cX4_bookOfNumber 61 = .ok (.athrow, 1) := by decide +kernel
theorem dX4_bookChangedByHand_0 : decode cX4_bookChangedByHand 0 = .ok (.aload_n 0, 1) := by decide +kernel
theorem dX4_bookChangedByHand_1 : decode cX4_bookChangedByHand 1 = .ok (.iload_n 1, 1) := by decide +kernel
theorem dX4_bookChangedByHand_2 : decode cX4_bookChangedByHand 2 = .ok (.invokevirtual 113, 3) := by decide +kernel
theorem dX4_bookChangedByHand_5 : decode cX4_bookChangedByHand 5 = .ok (.astore_n 2, 1) := by decide +kernel
theorem dX4_bookChangedByHand_6 : decode cX4_bookChangedByHand 6 = .ok (.iload_n 1, 1) := by decide +kernel
theorem dX4_bookChangedByHand_7 : decode cX4_bookChangedByHand 7 = .ok (.iconst 3, 1) := by decide +kernel
theorem dX4_bookChangedByHand_8 : decode cX4_bookChangedByHand 8 = .ok (.if_icmp .ne 13, 3) := by decide +kernel
theorem dX4_bookChangedByHand_11 : decode cX4_bookChangedByHand 11 = .ok (.new 50, 3) := by decide +kernel
theorem dX4_bookChangedByHand_14 : decode cX4_bookChangedByHand 14 = .ok (.dup, 1) := by decide +kernel
theorem dX4_bookChangedByHand_15 : decode cX4_bookChangedByHand 15 = .ok (.ldc 240, 2) := by decide +kernel
theorem dX4_bookChangedByHand_17 : decode cX4_bookChangedByHand 17 = .ok (.invokespecial 54, 3) := by decide +kernel
theorem dX4_bookChangedByHand_20 : decode cX4_bookChangedByHand 20 = .ok (.athrow, 1) := by decide +kernel
theorem dX4_bookChangedByHand_21 : decode cX4_bookChangedByHand 21 = .ok (.aload_n 2, 1) := by decide +kernel
theorem dX4_bookChangedByHand_22 : decode cX4_bookChangedByHand 22 = .ok (.areturn, 1) := by decide +kernel
theorem dX4_plainBook_0 : decode cX4_plainBook 0 = .ok (.aload_n 0, 1) := by decide +kernel
theorem dX4_plainBook_1 : decode cX4_plainBook 1 = .ok (.iload_n 1, 1) := by decide +kernel
theorem dX4_plainBook_2 : decode cX4_plainBook 2 = .ok (.invokevirtual 113, 3) := by decide +kernel
theorem dX4_plainBook_5 : decode cX4_plainBook 5 = .ok (.astore_n 2, 1) := by decide +kernel
theorem dX4_plainBook_6 : decode cX4_plainBook 6 = .ok (.iload_n 1, 1) := by decide +kernel
theorem dX4_plainBook_7 : decode cX4_plainBook 7 = .ok (.iconst 2, 1) := by decide +kernel
theorem dX4_plainBook_8 : decode cX4_plainBook 8 = .ok (.if_icmp .eq 8, 3) := by decide +kernel
theorem dX4_plainBook_11 : decode cX4_plainBook 11 = .ok (.iload_n 1, 1) := by decide +kernel
theorem dX4_plainBook_12 : decode cX4_plainBook 12 = .ok (.iconst 3, 1) := by decide +kernel
theorem dX4_plainBook_13 : decode cX4_plainBook 13 = .ok (.if_icmp .ne 13, 3) := by decide +kernel
theorem dX4_plainBook_16 : decode cX4_plainBook 16 = .ok (.new 50, 3) := by decide +kernel
theorem dX4_plainBook_19 : decode cX4_plainBook 19 = .ok (.dup, 1) := by decide +kernel
theorem dX4_plainBook_20 : decode cX4_plainBook 20 = .ok (.ldc 242, 2) := by decide +kernel
theorem dX4_plainBook_22 : decode cX4_plainBook 22 = .ok (.invokespecial 54, 3) := by decide +kernel
theorem dX4_plainBook_25 : decode cX4_plainBook 25 = .ok (.athrow, 1) := by decide +kernel
theorem dX4_plainBook_26 : decode cX4_plainBook 26 = .ok (.aload_n 2, 1) := by decide +kernel
theorem dX4_plainBook_27 : decode cX4_plainBook 27 = .ok (.areturn, 1) := by decide +kernel
theorem dX4_requireTwoBooks_0 : decode cX4_requireTwoBooks 0 = .ok (.iload_n 1, 1) := by decide +kernel
theorem dX4_requireTwoBooks_1 : decode cX4_requireTwoBooks 1 = .ok (.iload_n 2, 1) := by decide +kernel
theorem dX4_requireTwoBooks_2 : decode cX4_requireTwoBooks 2 = .ok (.if_icmp .ne 13, 3) := by decide +kernel
theorem dX4_requireTwoBooks_5 : decode cX4_requireTwoBooks 5 = .ok (.new 50, 3) := by decide +kernel
theorem dX4_requireTwoBooks_8 : decode cX4_requireTwoBooks 8 = .ok (.dup, 1) := by decide +kernel
theorem dX4_requireTwoBooks_9 : decode cX4_requireTwoBooks 9 = .ok (.ldc 244, 2) := by decide +kernel
theorem dX4_requireTwoBooks_11 : decode cX4_requireTwoBooks 11 = .ok (.invokespecial 54, 3) := by decide +kernel
theorem dX4_requireTwoBooks_14 : decode cX4_requireTwoBooks 14 = .ok (.athrow, 1) := by decide +kernel
theorem dX4_requireTwoBooks_15 : decode cX4_requireTwoBooks 15 = .ok (.return_, 1) := by decide +kernel
theorem dX4_requireRoomForKey_0 : decode cX4_requireRoomForKey 0 = .ok (.aload_n 0, 1) := by decide +kernel
theorem dX4_requireRoomForKey_1 : decode cX4_requireRoomForKey 1 = .ok (.aload_n 1, 1) := by decide +kernel
theorem dX4_requireRoomForKey_2 : decode cX4_requireRoomForKey 2 = .ok (.aload_n 1, 1) := by decide +kernel
theorem dX4_requireRoomForKey_3 : decode cX4_requireRoomForKey 3 = .ok (.iload_n 2, 1) := by decide +kernel
theorem dX4_requireRoomForKey_4 : decode cX4_requireRoomForKey 4 = .ok (.invokevirtual 86, 3) := by decide +kernel
theorem dX4_requireRoomForKey_7 : decode cX4_requireRoomForKey 7 = .ok (.iconst (-1), 1) := by decide +kernel
theorem dX4_requireRoomForKey_8 : decode cX4_requireRoomForKey 8 = .ok (.if_icmp .ne 7, 3) := by decide +kernel
theorem dX4_requireRoomForKey_11 : decode cX4_requireRoomForKey 11 = .ok (.iconst 1, 1) := by decide +kernel
theorem dX4_requireRoomForKey_12 : decode cX4_requireRoomForKey 12 = .ok (.goto 4, 3) := by decide +kernel
theorem dX4_requireRoomForKey_15 : decode cX4_requireRoomForKey 15 = .ok (.iconst 0, 1) := by decide +kernel
theorem dX4_requireRoomForKey_16 : decode cX4_requireRoomForKey 16 = .ok (.invokevirtual 110, 3) := by decide +kernel
theorem dX4_requireRoomForKey_19 : decode cX4_requireRoomForKey 19 = .ok (.return_, 1) := by decide +kernel
theorem dX4_requireRoom_0 : decode cX4_requireRoom 0 = .ok (.aload_n 1, 1) := by decide +kernel
theorem dX4_requireRoom_1 : decode cX4_requireRoom 1 = .ok (.getfield 246, 3) := by decide +kernel
theorem dX4_requireRoom_4 : decode cX4_requireRoom 4 = .ok (.ifCond .ne 26, 3) := by decide +kernel
theorem dX4_requireRoom_7 : decode cX4_requireRoom 7 = .ok (.aload_n 1, 1) := by decide +kernel
theorem dX4_requireRoom_8 : decode cX4_requireRoom 8 = .ok (.getfield 57, 3) := by decide +kernel
theorem dX4_requireRoom_11 : decode cX4_requireRoom 11 = .ok (.iload_n 2, 1) := by decide +kernel
theorem dX4_requireRoom_12 : decode cX4_requireRoom 12 = .ok (.iadd, 1) := by decide +kernel
theorem dX4_requireRoom_13 : decode cX4_requireRoom 13 = .ok (.aload_n 1, 1) := by decide +kernel
theorem dX4_requireRoom_14 : decode cX4_requireRoom 14 = .ok (.getfield 64, 3) := by decide +kernel
theorem dX4_requireRoom_17 : decode cX4_requireRoom 17 = .ok (.if_icmp .le 13, 3) := by decide +kernel
theorem dX4_requireRoom_20 : decode cX4_requireRoom 20 = .ok (.new 250, 3) := by decide +kernel
theorem dX4_requireRoom_23 : decode cX4_requireRoom 23 = .ok (.dup, 1) := by decide +kernel
theorem dX4_requireRoom_24 : decode cX4_requireRoom 24 = .ok (.ldc 252, 2) := by decide +kernel
theorem dX4_requireRoom_26 : decode cX4_requireRoom 26 = .ok (.invokespecial 254, 3) := by decide +kernel
theorem dX4_requireRoom_29 : decode cX4_requireRoom 29 = .ok (.athrow, 1) := by decide +kernel
theorem dX4_requireRoom_30 : decode cX4_requireRoom 30 = .ok (.return_, 1) := by decide +kernel
theorem dX4_requirePlace_0 : decode cX4_requirePlace 0 = .ok (.aload_n 1, 1) := by decide +kernel
theorem dX4_requirePlace_1 : decode cX4_requirePlace 1 = .ok (.iload_n 2, 1) := by decide +kernel
theorem dX4_requirePlace_2 : decode cX4_requirePlace 2 = .ok (.invokevirtual 255, 3) := by decide +kernel
theorem dX4_requirePlace_5 : decode cX4_requirePlace 5 = .ok (.ifCond .ne 14, 3) := by decide +kernel
theorem dX4_requirePlace_8 : decode cX4_requirePlace 8 = .ok (.new 235, 3) := by decide +kernel
theorem dX4_requirePlace_11 : decode cX4_requirePlace 11 = .ok (.dup, 1) := by decide +kernel
theorem dX4_requirePlace_12 : decode cX4_requirePlace 12 = .ok (.ldc_w 256, 3) := by decide +kernel
theorem dX4_requirePlace_15 : decode cX4_requirePlace 15 = .ok (.invokespecial 239, 3) := by decide +kernel
theorem dX4_requirePlace_18 : decode cX4_requirePlace 18 = .ok (.athrow, 1) := by decide +kernel
theorem dX4_requirePlace_19 : decode cX4_requirePlace 19 = .ok (.return_, 1) := by decide +kernel
theorem dX4_requireKind_0 : decode cX4_requireKind 0 = .ok (.iload_n 1, 1) := by decide +kernel
theorem dX4_requireKind_1 : decode cX4_requireKind 1 = .ok (.ifCond .lt 8, 3) := by decide +kernel
theorem dX4_requireKind_4 : decode cX4_requireKind 4 = .ok (.iload_n 1, 1) := by decide +kernel
theorem dX4_requireKind_5 : decode cX4_requireKind 5 = .ok (.iconst 2, 1) := by decide +kernel
theorem dX4_requireKind_6 : decode cX4_requireKind 6 = .ok (.if_icmp .le 14, 3) := by decide +kernel
theorem dX4_requireKind_9 : decode cX4_requireKind 9 = .ok (.new 50, 3) := by decide +kernel
theorem dX4_requireKind_12 : decode cX4_requireKind 12 = .ok (.dup, 1) := by decide +kernel
theorem dX4_requireKind_13 : decode cX4_requireKind 13 = .ok (.ldc_w 258, 3) := by decide +kernel
theorem dX4_requireKind_16 : decode cX4_requireKind 16 = .ok (.invokespecial 54, 3) := by decide +kernel
theorem dX4_requireKind_19 : decode cX4_requireKind 19 = .ok (.athrow, 1) := by decide +kernel
theorem dX4_requireKind_20 : decode cX4_requireKind 20 = .ok (.return_, 1) := by decide +kernel
theorem dX4_cursorOfNumber_0 : decode cX4_cursorOfNumber 0 = .ok (.iload_n 1, 1) := by decide +kernel
theorem dX4_cursorOfNumber_1 : decode cX4_cursorOfNumber 1 = .ok (.tableswitch 42 0 2 #[27, 32, 37], 27) := by decide +kernel
theorem dX4_cursorOfNumber_28 : decode cX4_cursorOfNumber 28 = .ok (.aload_n 0, 1) := by decide +kernel
theorem dX4_cursorOfNumber_29 : decode cX4_cursorOfNumber 29 = .ok (.getfield 33, 3) := by decide +kernel
theorem dX4_cursorOfNumber_32 : decode cX4_cursorOfNumber 32 = .ok (.areturn, 1) := by decide +kernel
theorem dX4_cursorOfNumber_33 : decode cX4_cursorOfNumber 33 = .ok (.aload_n 0, 1) := by decide +kernel
theorem dX4_cursorOfNumber_34 : decode cX4_cursorOfNumber 34 = .ok (.getfield 37, 3) := by decide +kernel
theorem dX4_cursorOfNumber_37 : decode cX4_cursorOfNumber 37 = .ok (.areturn, 1) := by decide +kernel
theorem dX4_cursorOfNumber_38 : decode cX4_cursorOfNumber 38 = .ok (.aload_n 0, 1) := by decide +kernel
theorem dX4_cursorOfNumber_39 : decode cX4_cursorOfNumber 39 = .ok (.getfield 40, 3) := by decide +kernel
theorem dX4_cursorOfNumber_42 : decode cX4_cursorOfNumber 42 = .ok (.areturn, 1) := by decide +kernel
theorem dX4_cursorOfNumber_43 : decode cX4_cursorOfNumber 43 = .ok (.new 235, 3) := by decide +kernel
theorem dX4_cursorOfNumber_46 : decode cX4_cursorOfNumber 46 = .ok (.dup, 1) := by decide +kernel
theorem dX4_cursorOfNumber_47 : decode cX4_cursorOfNumber 47 = .ok (.ldc_w 260, 3) := by decide +kernel
theorem dX4_cursorOfNumber_50 : decode cX4_cursorOfNumber 50 = .ok (.invokespecial 239, 3) := by decide +kernel
theorem dX4_cursorOfNumber_53 : decode cX4_cursorOfNumber 53 = .ok (.athrow, 1) := by decide +kernel
theorem dX4_openCursor_0 : decode cX4_openCursor 0 = .ok (.aload_n 0, 1) := by decide +kernel
theorem dX4_openCursor_1 : decode cX4_openCursor 1 = .ok (.iload_n 1, 1) := by decide +kernel
theorem dX4_openCursor_2 : decode cX4_openCursor 2 = .ok (.invokevirtual 137, 3) := by decide +kernel
theorem dX4_openCursor_5 : decode cX4_openCursor 5 = .ok (.astore_n 2, 1) := by decide +kernel
theorem dX4_openCursor_6 : decode cX4_openCursor 6 = .ok (.aload_n 2, 1) := by decide +kernel
theorem dX4_openCursor_7 : decode cX4_openCursor 7 = .ok (.getfield 153, 3) := by decide +kernel
theorem dX4_openCursor_10 : decode cX4_openCursor 10 = .ok (.iconst (-1), 1) := by decide +kernel
theorem dX4_openCursor_11 : decode cX4_openCursor 11 = .ok (.if_icmp .ne 14, 3) := by decide +kernel
theorem dX4_openCursor_14 : decode cX4_openCursor 14 = .ok (.new 250, 3) := by decide +kernel
theorem dX4_openCursor_17 : decode cX4_openCursor 17 = .ok (.dup, 1) := by decide +kernel
theorem dX4_openCursor_18 : decode cX4_openCursor 18 = .ok (.ldc_w 262, 3) := by decide +kernel
theorem dX4_openCursor_21 : decode cX4_openCursor 21 = .ok (.invokespecial 254, 3) := by decide +kernel
theorem dX4_openCursor_24 : decode cX4_openCursor 24 = .ok (.athrow, 1) := by decide +kernel
theorem dX4_openCursor_25 : decode cX4_openCursor 25 = .ok (.aload_n 2, 1) := by decide +kernel
theorem dX4_openCursor_26 : decode cX4_openCursor 26 = .ok (.areturn, 1) := by decide +kernel
theorem dX4_requireChangeablePair_0 : decode cX4_requireChangeablePair 0 = .ok (.aload_n 1, 1) := by decide +kernel
theorem dX4_requireChangeablePair_1 : decode cX4_requireChangeablePair 1 = .ok (.getfield 153, 3) := by decide +kernel
theorem dX4_requireChangeablePair_4 : decode cX4_requireChangeablePair 4 = .ok (.iconst (-1), 1) := by decide +kernel
theorem dX4_requireChangeablePair_5 : decode cX4_requireChangeablePair 5 = .ok (.if_icmp .eq 18, 3) := by decide +kernel
theorem dX4_requireChangeablePair_8 : decode cX4_requireChangeablePair 8 = .ok (.aload_n 1, 1) := by decide +kernel
theorem dX4_requireChangeablePair_9 : decode cX4_requireChangeablePair 9 = .ok (.getfield 153, 3) := by decide +kernel
theorem dX4_requireChangeablePair_12 : decode cX4_requireChangeablePair 12 = .ok (.iconst 3, 1) := by decide +kernel
theorem dX4_requireChangeablePair_13 : decode cX4_requireChangeablePair 13 = .ok (.if_icmp .eq 10, 3) := by decide +kernel
theorem dX4_requireChangeablePair_16 : decode cX4_requireChangeablePair 16 = .ok (.aload_n 1, 1) := by decide +kernel
theorem dX4_requireChangeablePair_17 : decode cX4_requireChangeablePair 17 = .ok (.getfield 264, 3) := by decide +kernel
theorem dX4_requireChangeablePair_20 : decode cX4_requireChangeablePair 20 = .ok (.ifCond .ne 14, 3) := by decide +kernel
theorem dX4_requireChangeablePair_23 : decode cX4_requireChangeablePair 23 = .ok (.new 250, 3) := by decide +kernel
theorem dX4_requireChangeablePair_26 : decode cX4_requireChangeablePair 26 = .ok (.dup, 1) := by decide +kernel
theorem dX4_requireChangeablePair_27 : decode cX4_requireChangeablePair 27 = .ok (.ldc_w 267, 3) := by decide +kernel
theorem dX4_requireChangeablePair_30 : decode cX4_requireChangeablePair 30 = .ok (.invokespecial 254, 3) := by decide +kernel
theorem dX4_requireChangeablePair_33 : decode cX4_requireChangeablePair 33 = .ok (.athrow, 1) := by decide +kernel
theorem dX4_requireChangeablePair_34 : decode cX4_requireChangeablePair 34 = .ok (.return_, 1) := by decide +kernel
theorem dX4_closeCursors_0 : decode cX4_closeCursors 0 = .ok (.iconst 0, 1) := by decide +kernel
theorem dX4_closeCursors_1 : decode cX4_closeCursors 1 = .ok (.istore_n 3, 1) := by decide +kernel
theorem dX4_closeCursors_2 : decode cX4_closeCursors 2 = .ok (.iload_n 3, 1) := by decide +kernel
theorem dX4_closeCursors_3 : decode cX4_closeCursors 3 = .ok (.iconst 3, 1) := by decide +kernel
theorem dX4_closeCursors_4 : decode cX4_closeCursors 4 = .ok (.if_icmp .ge 35, 3) := by decide +kernel
theorem dX4_closeCursors_7 : decode cX4_closeCursors 7 = .ok (.aload_n 0, 1) := by decide +kernel
theorem dX4_closeCursors_8 : decode cX4_closeCursors 8 = .ok (.iload_n 3, 1) := by decide +kernel
theorem dX4_closeCursors_9 : decode cX4_closeCursors 9 = .ok (.invokevirtual 137, 3) := by decide +kernel
theorem dX4_closeCursors_12 : decode cX4_closeCursors 12 = .ok (.astore 4, 2) := by decide +kernel
theorem dX4_closeCursors_14 : decode cX4_closeCursors 14 = .ok (.iload_n 3, 1) := by decide +kernel
theorem dX4_closeCursors_15 : decode cX4_closeCursors 15 = .ok (.iload_n 2, 1) := by decide +kernel
theorem dX4_closeCursors_16 : decode cX4_closeCursors 16 = .ok (.if_icmp .eq 17, 3) := by decide +kernel
theorem dX4_closeCursors_19 : decode cX4_closeCursors 19 = .ok (.aload 4, 2) := by decide +kernel
theorem dX4_closeCursors_21 : decode cX4_closeCursors 21 = .ok (.getfield 153, 3) := by decide +kernel
theorem dX4_closeCursors_24 : decode cX4_closeCursors 24 = .ok (.iload_n 1, 1) := by decide +kernel
theorem dX4_closeCursors_25 : decode cX4_closeCursors 25 = .ok (.if_icmp .ne 8, 3) := by decide +kernel
theorem dX4_closeCursors_28 : decode cX4_closeCursors 28 = .ok (.aload 4, 2) := by decide +kernel
theorem dX4_closeCursors_30 : decode cX4_closeCursors 30 = .ok (.invokevirtual 269, 3) := by decide +kernel
theorem dX4_closeCursors_33 : decode cX4_closeCursors 33 = .ok (.iinc 3 1, 3) := by decide +kernel
theorem dX4_closeCursors_36 : decode cX4_closeCursors 36 = .ok (.goto (-34), 3) := by decide +kernel
theorem dX4_closeCursors_39 : decode cX4_closeCursors 39 = .ok (.return_, 1) := by decide +kernel
theorem dX5_init_0 : decode cX5_init 0 = .ok (.aload_n 0, 1) := by decide +kernel
theorem dX5_init_1 : decode cX5_init 1 = .ok (.invokespecial 1, 3) := by decide +kernel
theorem dX5_init_4 : decode cX5_init 4 = .ok (.aload_n 0, 1) := by decide +kernel
theorem dX5_init_5 : decode cX5_init 5 = .ok (.sipush 804, 3) := by decide +kernel
theorem dX5_init_8 : decode cX5_init 8 = .ok (.newarray .int, 2) := by decide +kernel
theorem dX5_init_10 : decode cX5_init 10 = .ok (.putfield 7, 3) := by decide +kernel
theorem dX5_init_13 : decode cX5_init 13 = .ok (.aload_n 0, 1) := by decide +kernel
theorem dX5_init_14 : decode cX5_init 14 = .ok (.sipush 804, 3) := by decide +kernel
theorem dX5_init_17 : decode cX5_init 17 = .ok (.newarray .int, 2) := by decide +kernel
theorem dX5_init_19 : decode cX5_init 19 = .ok (.putfield 13, 3) := by decide +kernel
theorem dX5_init_22 : decode cX5_init 22 = .ok (.aload_n 0, 1) := by decide +kernel
theorem dX5_init_23 : decode cX5_init 23 = .ok (.iconst 4, 1) := by decide +kernel
theorem dX5_init_24 : decode cX5_init 24 = .ok (.newarray .int, 2) := by decide +kernel
theorem dX5_init_26 : decode cX5_init 26 = .ok (.putfield 16, 3) := by decide +kernel
theorem dX5_init_29 : decode cX5_init 29 = .ok (.aload_n 0, 1) := by decide +kernel
theorem dX5_init_30 : decode cX5_init 30 = .ok (.bipush 8, 2) := by decide +kernel
theorem dX5_init_32 : decode cX5_init 32 = .ok (.putfield 19, 3) := by decide +kernel
theorem dX5_init_35 : decode cX5_init 35 = .ok (.aload_n 0, 1) := by decide +kernel
theorem dX5_init_36 : decode cX5_init 36 = .ok (.iconst 3, 1) := by decide +kernel
theorem dX5_init_37 : decode cX5_init 37 = .ok (.newarray .int, 2) := by decide +kernel
theorem dX5_init_39 : decode cX5_init 39 = .ok (.dup, 1) := by decide +kernel
theorem dX5_init_40 : decode cX5_init 40 = .ok (.iconst 0, 1) := by decide +kernel
theorem dX5_init_41 : decode cX5_init 41 = .ok (.iconst (-1), 1) := by decide +kernel
theorem dX5_init_42 : decode cX5_init 42 = .ok (.iastore, 1) := by decide +kernel
theorem dX5_init_43 : decode cX5_init 43 = .ok (.dup, 1) := by decide +kernel
theorem dX5_init_44 : decode cX5_init 44 = .ok (.iconst 1, 1) := by decide +kernel
theorem dX5_init_45 : decode cX5_init 45 = .ok (.iconst (-1), 1) := by decide +kernel
theorem dX5_init_46 : decode cX5_init 46 = .ok (.iastore, 1) := by decide +kernel
theorem dX5_init_47 : decode cX5_init 47 = .ok (.dup, 1) := by decide +kernel
theorem dX5_init_48 : decode cX5_init 48 = .ok (.iconst 2, 1) := by decide +kernel
theorem dX5_init_49 : decode cX5_init 49 = .ok (.iconst (-1), 1) := by decide +kernel
theorem dX5_init_50 : decode cX5_init 50 = .ok (.iastore, 1) := by decide +kernel
theorem dX5_init_51 : decode cX5_init 51 = .ok (.putfield 23, 3) := by decide +kernel
theorem dX5_init_54 : decode cX5_init 54 = .ok (.aload_n 0, 1) := by decide +kernel
theorem dX5_init_55 : decode cX5_init 55 = .ok (.iconst 3, 1) := by decide +kernel
theorem dX5_init_56 : decode cX5_init 56 = .ok (.newarray .int, 2) := by decide +kernel
theorem dX5_init_58 : decode cX5_init 58 = .ok (.putfield 26, 3) := by decide +kernel
theorem dX5_init_61 : decode cX5_init 61 = .ok (.aload_n 0, 1) := by decide +kernel
theorem dX5_init_62 : decode cX5_init 62 = .ok (.iconst 3, 1) := by decide +kernel
theorem dX5_init_63 : decode cX5_init 63 = .ok (.newarray .int, 2) := by decide +kernel
theorem dX5_init_65 : decode cX5_init 65 = .ok (.putfield 29, 3) := by decide +kernel
theorem dX5_init_68 : decode cX5_init 68 = .ok (.aload_n 0, 1) := by decide +kernel
theorem dX5_init_69 : decode cX5_init 69 = .ok (.iconst 3, 1) := by decide +kernel
theorem dX5_init_70 : decode cX5_init 70 = .ok (.newarray .boolean, 2) := by decide +kernel
theorem dX5_init_72 : decode cX5_init 72 = .ok (.putfield 32, 3) := by decide +kernel
theorem dX5_init_75 : decode cX5_init 75 = .ok (.aload_n 0, 1) := by decide +kernel
theorem dX5_init_76 : decode cX5_init 76 = .ok (.sipush 6000, 3) := by decide +kernel
theorem dX5_init_79 : decode cX5_init 79 = .ok (.newarray .int, 2) := by decide +kernel
theorem dX5_init_81 : decode cX5_init 81 = .ok (.putfield 36, 3) := by decide +kernel
theorem dX5_init_84 : decode cX5_init 84 = .ok (.return_, 1) := by decide +kernel
theorem dX5_thrown_0 : decode cX5_thrown 0 = .ok (.aload_n 0, 1) := by decide +kernel
theorem dX5_thrown_1 : decode cX5_thrown 1 = .ok (.getfield 39, 3) := by decide +kernel
theorem dX5_thrown_4 : decode cX5_thrown 4 = .ok (.ireturn, 1) := by decide +kernel
theorem dX5_in_0 : decode cX5_in 0 = .ok (.iload_n 0, 1) := by decide +kernel
theorem dX5_in_1 : decode cX5_in 1 = .ok (.iload_n 1, 1) := by decide +kernel
theorem dX5_in_2 : decode cX5_in 2 = .ok (.if_icmp .lt 12, 3) := by decide +kernel
theorem dX5_in_5 : decode cX5_in 5 = .ok (.iload_n 0, 1) := by decide +kernel
theorem dX5_in_6 : decode cX5_in 6 = .ok (.iload_n 2, 1) := by decide +kernel
theorem dX5_in_7 : decode cX5_in 7 = .ok (.if_icmp .gt 7, 3) := by decide +kernel
theorem dX5_in_10 : decode cX5_in 10 = .ok (.iconst 1, 1) := by decide +kernel
theorem dX5_in_11 : decode cX5_in 11 = .ok (.goto 4, 3) := by decide +kernel
theorem dX5_in_14 : decode cX5_in 14 = .ok (.iconst 0, 1) := by decide +kernel
theorem dX5_in_15 : decode cX5_in 15 = .ok (.ireturn, 1) := by decide +kernel
theorem dX5_isBook_0 : decode cX5_isBook 0 = .ok (.iload_n 0, 1) := by decide +kernel
theorem dX5_isBook_1 : decode cX5_isBook 1 = .ok (.iconst 0, 1) := by decide +kernel
theorem dX5_isBook_2 : decode cX5_isBook 2 = .ok (.iconst 3, 1) := by decide +kernel
theorem dX5_isBook_3 : decode cX5_isBook 3 = .ok (.invokestatic 42, 3) := by decide +kernel
theorem dX5_isBook_6 : decode cX5_isBook 6 = .ok (.ireturn, 1) := by decide +kernel
theorem dX5_isPlain_0 : decode cX5_isPlain 0 = .ok (.iload_n 0, 1) := by decide +kernel
theorem dX5_isPlain_1 : decode cX5_isPlain 1 = .ok (.iconst 0, 1) := by decide +kernel
theorem dX5_isPlain_2 : decode cX5_isPlain 2 = .ok (.iconst 1, 1) := by decide +kernel
theorem dX5_isPlain_3 : decode cX5_isPlain 3 = .ok (.invokestatic 42, 3) := by decide +kernel
theorem dX5_isPlain_6 : decode cX5_isPlain 6 = .ok (.ireturn, 1) := by decide +kernel
theorem dX5_refuse_0 : decode cX5_refuse 0 = .ok (.aload_n 0, 1) := by decide +kernel
theorem dX5_refuse_1 : decode cX5_refuse 1 = .ok (.iload_n 1, 1) := by decide +kernel
theorem dX5_refuse_2 : decode cX5_refuse 2 = .ok (.putfield 39, 3) := by decide +kernel
theorem dX5_refuse_5 : decode cX5_refuse 5 = .ok (.iconst 0, 1) := by decide +kernel
theorem dX5_refuse_6 : decode cX5_refuse 6 = .ok (.ireturn, 1) := by decide +kernel
theorem dX5_told_0 : decode cX5_told 0 = .ok (.aload_n 0, 1) := by decide +kernel
theorem dX5_told_1 : decode cX5_told 1 = .ok (.iconst 0, 1) := by decide +kernel
theorem dX5_told_2 : decode cX5_told 2 = .ok (.putfield 39, 3) := by decide +kernel
theorem dX5_told_5 : decode cX5_told 5 = .ok (.iload_n 1, 1) := by decide +kernel
theorem dX5_told_6 : decode cX5_told 6 = .ok (.ireturn, 1) := by decide +kernel
theorem dX5_says_0 : decode cX5_says 0 = .ok (.aload_n 0, 1) := by decide +kernel
theorem dX5_says_1 : decode cX5_says 1 = .ok (.iconst 0, 1) := by decide +kernel
theorem dX5_says_2 : decode cX5_says 2 = .ok (.putfield 39, 3) := by decide +kernel
theorem dX5_says_5 : decode cX5_says 5 = .ok (.iload_n 1, 1) := by decide +kernel
theorem dX5_says_6 : decode cX5_says 6 = .ok (.ireturn, 1) := by decide +kernel
theorem dX5_denies_0 : decode cX5_denies 0 = .ok (.aload_n 0, 1) := by decide +kernel
theorem dX5_denies_1 : decode cX5_denies 1 = .ok (.iload_n 1, 1) := by decide +kernel
theorem dX5_denies_2 : decode cX5_denies 2 = .ok (.putfield 39, 3) := by decide +kernel
theorem dX5_denies_5 : decode cX5_denies 5 = .ok (.iconst 0, 1) := by decide +kernel
theorem dX5_denies_6 : decode cX5_denies 6 = .ok (.ireturn, 1) := by decide +kernel
theorem dX5_place_0 : decode cX5_place 0 = .ok (.iconst 0, 1) := by decide +kernel
theorem dX5_place_1 : decode cX5_place 1 = .ok (.istore_n 3, 1) := by decide +kernel
theorem dX5_place_2 : decode cX5_place 2 = .ok (.iload_n 3, 1) := by decide +kernel
theorem dX5_place_3 : decode cX5_place 3 = .ok (.aload_n 0, 1) := by decide +kernel
theorem dX5_place_4 : decode cX5_place 4 = .ok (.getfield 16, 3) := by decide +kernel
theorem dX5_place_7 : decode cX5_place 7 = .ok (.iload_n 1, 1) := by decide +kernel
theorem dX5_place_8 : decode cX5_place 8 = .ok (.iaload, 1) := by decide +kernel
theorem dX5_place_9 : decode cX5_place 9 = .ok (.if_icmp .ge 27, 3) := by decide +kernel
theorem dX5_place_12 : decode cX5_place 12 = .ok (.aload_n 0, 1) := by decide +kernel
theorem dX5_place_13 : decode cX5_place 13 = .ok (.getfield 7, 3) := by decide +kernel
theorem dX5_place_16 : decode cX5_place 16 = .ok (.sipush 201, 3) := by decide +kernel
theorem dX5_place_19 : decode cX5_place 19 = .ok (.iload_n 1, 1) := by decide +kernel
theorem dX5_place_20 : decode cX5_place 20 = .ok (.imul, 1) := by decide +kernel
theorem dX5_place_21 : decode cX5_place 21 = .ok (.iload_n 3, 1) := by decide +kernel
theorem dX5_place_22 : decode cX5_place 22 = .ok (.iadd, 1) := by decide +kernel
theorem dX5_place_23 : decode cX5_place 23 = .ok (.iaload, 1) := by decide +kernel
theorem dX5_place_24 : decode cX5_place 24 = .ok (.iload_n 2, 1) := by decide +kernel
theorem dX5_place_25 : decode cX5_place 25 = .ok (.if_icmp .ne 5, 3) := by decide +kernel
theorem dX5_place_28 : decode cX5_place 28 = .ok (.iload_n 3, 1) := by decide +kernel
theorem dX5_place_29 : decode cX5_place 29 = .ok (.ireturn, 1) := by decide +kernel
theorem dX5_place_30 : decode cX5_place 30 = .ok (.iinc 3 1, 3) := by decide +kernel
theorem dX5_place_33 : decode cX5_place 33 = .ok (.goto (-31), 3) := by decide +kernel
theorem dX5_place_36 : decode cX5_place 36 = .ok (.iconst (-1), 1) := by decide +kernel
theorem dX5_place_37 : decode cX5_place 37 = .ok (.ireturn, 1) := by decide +kernel
theorem dX5_takes_0 : decode cX5_takes 0 = .ok (.iload_n 2, 1) := by decide +kernel
theorem dX5_takes_1 : decode cX5_takes 1 = .ok (.istore_n 3, 1) := by decide +kernel
theorem dX5_takes_2 : decode cX5_takes 2 = .ok (.iload_n 3, 1) := by decide +kernel
theorem dX5_takes_3 : decode cX5_takes 3 = .ok (.iconst 1, 1) := by decide +kernel
theorem dX5_takes_4 : decode cX5_takes 4 = .ok (.iadd, 1) := by decide +kernel
theorem dX5_takes_5 : decode cX5_takes 5 = .ok (.aload_n 0, 1) := by decide +kernel
theorem dX5_takes_6 : decode cX5_takes 6 = .ok (.getfield 16, 3) := by decide +kernel
theorem dX5_takes_9 : decode cX5_takes 9 = .ok (.iload_n 1, 1) := by decide +kernel
theorem dX5_takes_10 : decode cX5_takes 10 = .ok (.iaload, 1) := by decide +kernel
theorem dX5_takes_11 : decode cX5_takes 11 = .ok (.if_icmp .ge 61, 3) := by decide +kernel
theorem dX5_takes_14 : decode cX5_takes 14 = .ok (.aload_n 0, 1) := by decide +kernel
theorem dX5_takes_15 : decode cX5_takes 15 = .ok (.getfield 7, 3) := by decide +kernel
theorem dX5_takes_18 : decode cX5_takes 18 = .ok (.sipush 201, 3) := by decide +kernel
theorem dX5_takes_21 : decode cX5_takes 21 = .ok (.iload_n 1, 1) := by decide +kernel
theorem dX5_takes_22 : decode cX5_takes 22 = .ok (.imul, 1) := by decide +kernel
theorem dX5_takes_23 : decode cX5_takes 23 = .ok (.iload_n 3, 1) := by decide +kernel
theorem dX5_takes_24 : decode cX5_takes 24 = .ok (.iadd, 1) := by decide +kernel
theorem dX5_takes_25 : decode cX5_takes 25 = .ok (.aload_n 0, 1) := by decide +kernel
theorem dX5_takes_26 : decode cX5_takes 26 = .ok (.getfield 7, 3) := by decide +kernel
theorem dX5_takes_29 : decode cX5_takes 29 = .ok (.sipush 201, 3) := by decide +kernel
theorem dX5_takes_32 : decode cX5_takes 32 = .ok (.iload_n 1, 1) := by decide +kernel
theorem dX5_takes_33 : decode cX5_takes 33 = .ok (.imul, 1) := by decide +kernel
theorem dX5_takes_34 : decode cX5_takes 34 = .ok (.iload_n 3, 1) := by decide +kernel
theorem dX5_takes_35 : decode cX5_takes 35 = .ok (.iadd, 1) := by decide +kernel
theorem dX5_takes_36 : decode cX5_takes 36 = .ok (.iconst 1, 1) := by decide +kernel
theorem dX5_takes_37 : decode cX5_takes 37 = .ok (.iadd, 1) := by decide +kernel
theorem dX5_takes_38 : decode cX5_takes 38 = .ok (.iaload, 1) := by decide +kernel
theorem dX5_takes_39 : decode cX5_takes 39 = .ok (.iastore, 1) := by decide +kernel
theorem dX5_takes_40 : decode cX5_takes 40 = .ok (.aload_n 0, 1) := by decide +kernel
theorem dX5_takes_41 : decode cX5_takes 41 = .ok (.getfield 13, 3) := by decide +kernel
theorem dX5_takes_44 : decode cX5_takes 44 = .ok (.sipush 201, 3) := by decide +kernel
theorem dX5_takes_47 : decode cX5_takes 47 = .ok (.iload_n 1, 1) := by decide +kernel
theorem dX5_takes_48 : decode cX5_takes 48 = .ok (.imul, 1) := by decide +kernel
theorem dX5_takes_49 : decode cX5_takes 49 = .ok (.iload_n 3, 1) := by decide +kernel
theorem dX5_takes_50 : decode cX5_takes 50 = .ok (.iadd, 1) := by decide +kernel
theorem dX5_takes_51 : decode cX5_takes 51 = .ok (.aload_n 0, 1) := by decide +kernel
theorem dX5_takes_52 : decode cX5_takes 52 = .ok (.getfield 13, 3) := by decide +kernel
theorem dX5_takes_55 : decode cX5_takes 55 = .ok (.sipush 201, 3) := by decide +kernel
theorem dX5_takes_58 : decode cX5_takes 58 = .ok (.iload_n 1, 1) := by decide +kernel
theorem dX5_takes_59 : decode cX5_takes 59 = .ok (.imul, 1) := by decide +kernel
theorem dX5_takes_60 : decode cX5_takes 60 = .ok (.iload_n 3, 1) := by decide +kernel
theorem dX5_takes_61 : decode cX5_takes 61 = .ok (.iadd, 1) := by decide +kernel
theorem dX5_takes_62 : decode cX5_takes 62 = .ok (.iconst 1, 1) := by decide +kernel
theorem dX5_takes_63 : decode cX5_takes 63 = .ok (.iadd, 1) := by decide +kernel
theorem dX5_takes_64 : decode cX5_takes 64 = .ok (.iaload, 1) := by decide +kernel
theorem dX5_takes_65 : decode cX5_takes 65 = .ok (.iastore, 1) := by decide +kernel
theorem dX5_takes_66 : decode cX5_takes 66 = .ok (.iinc 3 1, 3) := by decide +kernel
theorem dX5_takes_69 : decode cX5_takes 69 = .ok (.goto (-67), 3) := by decide +kernel
theorem dX5_takes_72 : decode cX5_takes 72 = .ok (.aload_n 0, 1) := by decide +kernel
theorem dX5_takes_73 : decode cX5_takes 73 = .ok (.getfield 16, 3) := by decide +kernel
theorem dX5_takes_76 : decode cX5_takes 76 = .ok (.iload_n 1, 1) := by decide +kernel
theorem dX5_takes_77 : decode cX5_takes 77 = .ok (.dup2, 1) := by decide +kernel
theorem dX5_takes_78 : decode cX5_takes 78 = .ok (.iaload, 1) := by decide +kernel
theorem dX5_takes_79 : decode cX5_takes 79 = .ok (.iconst 1, 1) := by decide +kernel
theorem dX5_takes_80 : decode cX5_takes 80 = .ok (.isub, 1) := by decide +kernel
theorem dX5_takes_81 : decode cX5_takes 81 = .ok (.iastore, 1) := by decide +kernel
theorem dX5_takes_82 : decode cX5_takes 82 = .ok (.return_, 1) := by decide +kernel
theorem dX5_comes_0 : decode cX5_comes 0 = .ok (.aload_n 0, 1) := by decide +kernel
theorem dX5_comes_1 : decode cX5_comes 1 = .ok (.getfield 7, 3) := by decide +kernel
theorem dX5_comes_4 : decode cX5_comes 4 = .ok (.sipush 201, 3) := by decide +kernel
theorem dX5_comes_7 : decode cX5_comes 7 = .ok (.iload_n 1, 1) := by decide +kernel
theorem dX5_comes_8 : decode cX5_comes 8 = .ok (.imul, 1) := by decide +kernel
theorem dX5_comes_9 : decode cX5_comes 9 = .ok (.aload_n 0, 1) := by decide +kernel
theorem dX5_comes_10 : decode cX5_comes 10 = .ok (.getfield 16, 3) := by decide +kernel
theorem dX5_comes_13 : decode cX5_comes 13 = .ok (.iload_n 1, 1) := by decide +kernel
theorem dX5_comes_14 : decode cX5_comes 14 = .ok (.iaload, 1) := by decide +kernel
theorem dX5_comes_15 : decode cX5_comes 15 = .ok (.iadd, 1) := by decide +kernel
theorem dX5_comes_16 : decode cX5_comes 16 = .ok (.iload_n 2, 1) := by decide +kernel
theorem dX5_comes_17 : decode cX5_comes 17 = .ok (.iastore, 1) := by decide +kernel
theorem dX5_comes_18 : decode cX5_comes 18 = .ok (.aload_n 0, 1) := by decide +kernel
theorem dX5_comes_19 : decode cX5_comes 19 = .ok (.getfield 13, 3) := by decide +kernel
theorem dX5_comes_22 : decode cX5_comes 22 = .ok (.sipush 201, 3) := by decide +kernel
theorem dX5_comes_25 : decode cX5_comes 25 = .ok (.iload_n 1, 1) := by decide +kernel
theorem dX5_comes_26 : decode cX5_comes 26 = .ok (.imul, 1) := by decide +kernel
theorem dX5_comes_27 : decode cX5_comes 27 = .ok (.aload_n 0, 1) := by decide +kernel
theorem dX5_comes_28 : decode cX5_comes 28 = .ok (.getfield 16, 3) := by decide +kernel
theorem dX5_comes_31 : decode cX5_comes 31 = .ok (.iload_n 1, 1) := by decide +kernel
theorem dX5_comes_32 : decode cX5_comes 32 = .ok (.iaload, 1) := by decide +kernel
theorem dX5_comes_33 : decode cX5_comes 33 = .ok (.iadd, 1) := by decide +kernel
theorem dX5_comes_34 : decode cX5_comes 34 = .ok (.iload_n 3, 1) := by decide +kernel
theorem dX5_comes_35 : decode cX5_comes 35 = .ok (.iastore, 1) := by decide +kernel
theorem dX5_comes_36 : decode cX5_comes 36 = .ok (.aload_n 0, 1) := by decide +kernel
theorem dX5_comes_37 : decode cX5_comes 37 = .ok (.getfield 16, 3) := by decide +kernel
theorem dX5_comes_40 : decode cX5_comes 40 = .ok (.iload_n 1, 1) := by decide +kernel
theorem dX5_comes_41 : decode cX5_comes 41 = .ok (.dup2, 1) := by decide +kernel
theorem dX5_comes_42 : decode cX5_comes 42 = .ok (.iaload, 1) := by decide +kernel
theorem dX5_comes_43 : decode cX5_comes 43 = .ok (.iconst 1, 1) := by decide +kernel
theorem dX5_comes_44 : decode cX5_comes 44 = .ok (.iadd, 1) := by decide +kernel
theorem dX5_comes_45 : decode cX5_comes 45 = .ok (.iastore, 1) := by decide +kernel
theorem dX5_comes_46 : decode cX5_comes 46 = .ok (.iload_n 1, 1) := by decide +kernel
theorem dX5_comes_47 : decode cX5_comes 47 = .ok (.iconst 2, 1) := by decide +kernel
theorem dX5_comes_48 : decode cX5_comes 48 = .ok (.if_icmp .ne 22, 3) := by decide +kernel
theorem dX5_comes_51 : decode cX5_comes 51 = .ok (.aload_n 0, 1) := by decide +kernel
theorem dX5_comes_52 : decode cX5_comes 52 = .ok (.getfield 16, 3) := by decide +kernel
theorem dX5_comes_55 : decode cX5_comes 55 = .ok (.iload_n 1, 1) := by decide +kernel
theorem dX5_comes_56 : decode cX5_comes 56 = .ok (.iaload, 1) := by decide +kernel
theorem dX5_comes_57 : decode cX5_comes 57 = .ok (.aload_n 0, 1) := by decide +kernel
theorem dX5_comes_58 : decode cX5_comes 58 = .ok (.getfield 19, 3) := by decide +kernel
theorem dX5_comes_61 : decode cX5_comes 61 = .ok (.if_icmp .le 9, 3) := by decide +kernel
theorem dX5_comes_64 : decode cX5_comes 64 = .ok (.aload_n 0, 1) := by decide +kernel
theorem dX5_comes_65 : decode cX5_comes 65 = .ok (.iload_n 1, 1) := by decide +kernel
theorem dX5_comes_66 : decode cX5_comes 66 = .ok (.iconst 0, 1) := by decide +kernel
theorem dX5_comes_67 : decode cX5_comes 67 = .ok (.invokevirtual 46, 3) := by decide +kernel
theorem dX5_comes_70 : decode cX5_comes 70 = .ok (.return_, 1) := by decide +kernel
theorem dX5_puts_0 : decode cX5_puts 0 = .ok (.aload_n 0, 1) := by decide +kernel
theorem dX5_puts_1 : decode cX5_puts 1 = .ok (.iload_n 1, 1) := by decide +kernel
theorem dX5_puts_2 : decode cX5_puts 2 = .ok (.iload_n 2, 1) := by decide +kernel
theorem dX5_puts_3 : decode cX5_puts 3 = .ok (.invokevirtual 50, 3) := by decide +kernel
theorem dX5_puts_6 : decode cX5_puts 6 = .ok (.istore 4, 2) := by decide +kernel
theorem dX5_puts_8 : decode cX5_puts 8 = .ok (.iload 4, 2) := by decide +kernel
theorem dX5_puts_10 : decode cX5_puts 10 = .ok (.iconst (-1), 1) := by decide +kernel
theorem dX5_puts_11 : decode cX5_puts 11 = .ok (.if_icmp .ne 13, 3) := by decide +kernel
theorem dX5_puts_14 : decode cX5_puts 14 = .ok (.aload_n 0, 1) := by decide +kernel
theorem dX5_puts_15 : decode cX5_puts 15 = .ok (.iload_n 1, 1) := by decide +kernel
theorem dX5_puts_16 : decode cX5_puts 16 = .ok (.iload_n 2, 1) := by decide +kernel
theorem dX5_puts_17 : decode cX5_puts 17 = .ok (.iload_n 3, 1) := by decide +kernel
theorem dX5_puts_18 : decode cX5_puts 18 = .ok (.invokevirtual 54, 3) := by decide +kernel
theorem dX5_puts_21 : decode cX5_puts 21 = .ok (.goto 17, 3) := by decide +kernel
theorem dX5_puts_24 : decode cX5_puts 24 = .ok (.aload_n 0, 1) := by decide +kernel
theorem dX5_puts_25 : decode cX5_puts 25 = .ok (.getfield 13, 3) := by decide +kernel
theorem dX5_puts_28 : decode cX5_puts 28 = .ok (.sipush 201, 3) := by decide +kernel
theorem dX5_puts_31 : decode cX5_puts 31 = .ok (.iload_n 1, 1) := by decide +kernel
theorem dX5_puts_32 : decode cX5_puts 32 = .ok (.imul, 1) := by decide +kernel
theorem dX5_puts_33 : decode cX5_puts 33 = .ok (.iload 4, 2) := by decide +kernel
theorem dX5_puts_35 : decode cX5_puts 35 = .ok (.iadd, 1) := by decide +kernel
theorem dX5_puts_36 : decode cX5_puts 36 = .ok (.iload_n 3, 1) := by decide +kernel
theorem dX5_puts_37 : decode cX5_puts 37 = .ok (.iastore, 1) := by decide +kernel
theorem dX5_puts_38 : decode cX5_puts 38 = .ok (.return_, 1) := by decide +kernel
theorem dX5_isFull_0 : decode cX5_isFull 0 = .ok (.iload_n 1, 1) := by decide +kernel
theorem dX5_isFull_1 : decode cX5_isFull 1 = .ok (.iconst 2, 1) := by decide +kernel
theorem dX5_isFull_2 : decode cX5_isFull 2 = .ok (.if_icmp .eq 29, 3) := by decide +kernel
theorem dX5_isFull_5 : decode cX5_isFull 5 = .ok (.aload_n 0, 1) := by decide +kernel
theorem dX5_isFull_6 : decode cX5_isFull 6 = .ok (.getfield 16, 3) := by decide +kernel
theorem dX5_isFull_9 : decode cX5_isFull 9 = .ok (.iload_n 1, 1) := by decide +kernel
theorem dX5_isFull_10 : decode cX5_isFull 10 = .ok (.iaload, 1) := by decide +kernel
theorem dX5_isFull_11 : decode cX5_isFull 11 = .ok (.sipush 200, 3) := by decide +kernel
theorem dX5_isFull_14 : decode cX5_isFull 14 = .ok (.if_icmp .ne 17, 3) := by decide +kernel
theorem dX5_isFull_17 : decode cX5_isFull 17 = .ok (.aload_n 0, 1) := by decide +kernel
theorem dX5_isFull_18 : decode cX5_isFull 18 = .ok (.iload_n 1, 1) := by decide +kernel
theorem dX5_isFull_19 : decode cX5_isFull 19 = .ok (.iload_n 2, 1) := by decide +kernel
theorem dX5_isFull_20 : decode cX5_isFull 20 = .ok (.invokevirtual 50, 3) := by decide +kernel
theorem dX5_isFull_23 : decode cX5_isFull 23 = .ok (.iconst (-1), 1) := by decide +kernel
theorem dX5_isFull_24 : decode cX5_isFull 24 = .ok (.if_icmp .ne 7, 3) := by decide +kernel
theorem dX5_isFull_27 : decode cX5_isFull 27 = .ok (.iconst 1, 1) := by decide +kernel
theorem dX5_isFull_28 : decode cX5_isFull 28 = .ok (.goto 4, 3) := by decide +kernel
theorem dX5_isFull_31 : decode cX5_isFull 31 = .ok (.iconst 0, 1) := by decide +kernel
theorem dX5_isFull_32 : decode cX5_isFull 32 = .ok (.ireturn, 1) := by decide +kernel
theorem dX5_closes_0 : decode cX5_closes 0 = .ok (.iconst 0, 1) := by decide +kernel
theorem dX5_closes_1 : decode cX5_closes 1 = .ok (.istore_n 3, 1) := by decide +kernel
theorem dX5_closes_2 : decode cX5_closes 2 = .ok (.iload_n 3, 1) := by decide +kernel
theorem dX5_closes_3 : decode cX5_closes 3 = .ok (.iconst 3, 1) := by decide +kernel
theorem dX5_closes_4 : decode cX5_closes 4 = .ok (.if_icmp .ge 31, 3) := by decide +kernel
theorem dX5_closes_7 : decode cX5_closes 7 = .ok (.aload_n 0, 1) := by decide +kernel
theorem dX5_closes_8 : decode cX5_closes 8 = .ok (.getfield 23, 3) := by decide +kernel
theorem dX5_closes_11 : decode cX5_closes 11 = .ok (.iload_n 3, 1) := by decide +kernel
theorem dX5_closes_12 : decode cX5_closes 12 = .ok (.iaload, 1) := by decide +kernel
theorem dX5_closes_13 : decode cX5_closes 13 = .ok (.iload_n 1, 1) := by decide +kernel
theorem dX5_closes_14 : decode cX5_closes 14 = .ok (.if_icmp .ne 15, 3) := by decide +kernel
theorem dX5_closes_17 : decode cX5_closes 17 = .ok (.iload_n 3, 1) := by decide +kernel
theorem dX5_closes_18 : decode cX5_closes 18 = .ok (.iload_n 2, 1) := by decide +kernel
theorem dX5_closes_19 : decode cX5_closes 19 = .ok (.if_icmp .eq 10, 3) := by decide +kernel
theorem dX5_closes_22 : decode cX5_closes 22 = .ok (.aload_n 0, 1) := by decide +kernel
theorem dX5_closes_23 : decode cX5_closes 23 = .ok (.getfield 23, 3) := by decide +kernel
theorem dX5_closes_26 : decode cX5_closes 26 = .ok (.iload_n 3, 1) := by decide +kernel
theorem dX5_closes_27 : decode cX5_closes 27 = .ok (.iconst (-1), 1) := by decide +kernel
theorem dX5_closes_28 : decode cX5_closes 28 = .ok (.iastore, 1) := by decide +kernel
theorem dX5_closes_29 : decode cX5_closes 29 = .ok (.iinc 3 1, 3) := by decide +kernel
theorem dX5_closes_32 : decode cX5_closes 32 = .ok (.goto (-30), 3) := by decide +kernel
theorem dX5_closes_35 : decode cX5_closes 35 = .ok (.return_, 1) := by decide +kernel
theorem dX5_rebind_0 : decode cX5_rebind 0 = .ok (.iload_n 1, 1) := by decide +kernel
theorem dX5_rebind_1 : decode cX5_rebind 1 = .ok (.iconst 1, 1) := by decide +kernel
theorem dX5_rebind_2 : decode cX5_rebind 2 = .ok (.bipush 40, 2) := by decide +kernel
theorem dX5_rebind_4 : decode cX5_rebind 4 = .ok (.invokestatic 42, 3) := by decide +kernel
theorem dX5_rebind_7 : decode cX5_rebind 7 = .ok (.ifCond .ne 9, 3) := by decide +kernel
theorem dX5_rebind_10 : decode cX5_rebind 10 = .ok (.aload_n 0, 1) := by decide +kernel
theorem dX5_rebind_11 : decode cX5_rebind 11 = .ok (.iconst 1, 1) := by decide +kernel
theorem dX5_rebind_12 : decode cX5_rebind 12 = .ok (.invokevirtual 58, 3) := by decide +kernel
theorem dX5_rebind_15 : decode cX5_rebind 15 = .ok (.ireturn, 1) := by decide +kernel
theorem dX5_rebind_16 : decode cX5_rebind 16 = .ok (.aload_n 0, 1) := by decide +kernel
theorem dX5_rebind_17 : decode cX5_rebind 17 = .ok (.getfield 16, 3) := by decide +kernel
theorem dX5_rebind_20 : decode cX5_rebind 20 = .ok (.iconst 2, 1) := by decide +kernel
theorem dX5_rebind_21 : decode cX5_rebind 21 = .ok (.iaload, 1) := by decide +kernel
theorem dX5_rebind_22 : decode cX5_rebind 22 = .ok (.istore_n 2, 1) := by decide +kernel
theorem dX5_rebind_23 : decode cX5_rebind 23 = .ok (.aload_n 0, 1) := by decide +kernel
theorem dX5_rebind_24 : decode cX5_rebind 24 = .ok (.getfield 16, 3) := by decide +kernel
theorem dX5_rebind_27 : decode cX5_rebind 27 = .ok (.iconst 2, 1) := by decide +kernel
theorem dX5_rebind_28 : decode cX5_rebind 28 = .ok (.iconst 0, 1) := by decide +kernel
theorem dX5_rebind_29 : decode cX5_rebind 29 = .ok (.iastore, 1) := by decide +kernel
theorem dX5_rebind_30 : decode cX5_rebind 30 = .ok (.aload_n 0, 1) := by decide +kernel
theorem dX5_rebind_31 : decode cX5_rebind 31 = .ok (.iload_n 1, 1) := by decide +kernel
theorem dX5_rebind_32 : decode cX5_rebind 32 = .ok (.putfield 19, 3) := by decide +kernel
theorem dX5_rebind_35 : decode cX5_rebind 35 = .ok (.aload_n 0, 1) := by decide +kernel
theorem dX5_rebind_36 : decode cX5_rebind 36 = .ok (.iconst 2, 1) := by decide +kernel
theorem dX5_rebind_37 : decode cX5_rebind 37 = .ok (.iconst (-1), 1) := by decide +kernel
theorem dX5_rebind_38 : decode cX5_rebind 38 = .ok (.invokevirtual 62, 3) := by decide +kernel
theorem dX5_rebind_41 : decode cX5_rebind 41 = .ok (.aload_n 0, 1) := by decide +kernel
theorem dX5_rebind_42 : decode cX5_rebind 42 = .ok (.iload_n 2, 1) := by decide +kernel
theorem dX5_rebind_43 : decode cX5_rebind 43 = .ok (.invokevirtual 65, 3) := by decide +kernel
theorem dX5_rebind_46 : decode cX5_rebind 46 = .ok (.ireturn, 1) := by decide +kernel
theorem dX5_put_0 : decode cX5_put 0 = .ok (.iload_n 1, 1) := by decide +kernel
theorem dX5_put_1 : decode cX5_put 1 = .ok (.invokestatic 68, 3) := by decide +kernel
theorem dX5_put_4 : decode cX5_put 4 = .ok (.ifCond .ne 9, 3) := by decide +kernel
theorem dX5_put_7 : decode cX5_put 7 = .ok (.aload_n 0, 1) := by decide +kernel
theorem dX5_put_8 : decode cX5_put 8 = .ok (.iconst 1, 1) := by decide +kernel
theorem dX5_put_9 : decode cX5_put 9 = .ok (.invokevirtual 72, 3) := by decide +kernel
theorem dX5_put_12 : decode cX5_put 12 = .ok (.ireturn, 1) := by decide +kernel
theorem dX5_put_13 : decode cX5_put 13 = .ok (.iload_n 1, 1) := by decide +kernel
theorem dX5_put_14 : decode cX5_put 14 = .ok (.iconst 3, 1) := by decide +kernel
theorem dX5_put_15 : decode cX5_put 15 = .ok (.if_icmp .ne 9, 3) := by decide +kernel
theorem dX5_put_18 : decode cX5_put 18 = .ok (.aload_n 0, 1) := by decide +kernel
theorem dX5_put_19 : decode cX5_put 19 = .ok (.iconst 2, 1) := by decide +kernel
theorem dX5_put_20 : decode cX5_put 20 = .ok (.invokevirtual 72, 3) := by decide +kernel
theorem dX5_put_23 : decode cX5_put 23 = .ok (.ireturn, 1) := by decide +kernel
theorem dX5_put_24 : decode cX5_put 24 = .ok (.aload_n 0, 1) := by decide +kernel
theorem dX5_put_25 : decode cX5_put 25 = .ok (.iload_n 1, 1) := by decide +kernel
theorem dX5_put_26 : decode cX5_put 26 = .ok (.iload_n 2, 1) := by decide +kernel
theorem dX5_put_27 : decode cX5_put 27 = .ok (.invokevirtual 75, 3) := by decide +kernel
theorem dX5_put_30 : decode cX5_put 30 = .ok (.ifCond .eq 9, 3) := by decide +kernel
theorem dX5_put_33 : decode cX5_put 33 = .ok (.aload_n 0, 1) := by decide +kernel
theorem dX5_put_34 : decode cX5_put 34 = .ok (.iconst 3, 1) := by decide +kernel
theorem dX5_put_35 : decode cX5_put 35 = .ok (.invokevirtual 72, 3) := by decide +kernel
theorem dX5_put_38 : decode cX5_put 38 = .ok (.ireturn, 1) := by decide +kernel
theorem dX5_put_39 : decode cX5_put 39 = .ok (.aload_n 0, 1) := by decide +kernel
theorem dX5_put_40 : decode cX5_put 40 = .ok (.iload_n 1, 1) := by decide +kernel
theorem dX5_put_41 : decode cX5_put 41 = .ok (.iload_n 2, 1) := by decide +kernel
theorem dX5_put_42 : decode cX5_put 42 = .ok (.invokevirtual 50, 3) := by decide +kernel
theorem dX5_put_45 : decode cX5_put 45 = .ok (.iconst (-1), 1) := by decide +kernel
theorem dX5_put_46 : decode cX5_put 46 = .ok (.if_icmp .eq 7, 3) := by decide +kernel
theorem dX5_put_49 : decode cX5_put 49 = .ok (.iconst 1, 1) := by decide +kernel
theorem dX5_put_50 : decode cX5_put 50 = .ok (.goto 4, 3) := by decide +kernel
theorem dX5_put_53 : decode cX5_put 53 = .ok (.iconst 0, 1) := by decide +kernel
theorem dX5_put_54 : decode cX5_put 54 = .ok (.istore 4, 2) := by decide +kernel
theorem dX5_put_56 : decode cX5_put 56 = .ok (.aload_n 0, 1) := by decide +kernel
theorem dX5_put_57 : decode cX5_put 57 = .ok (.iload_n 1, 1) := by decide +kernel
theorem dX5_put_58 : decode cX5_put 58 = .ok (.iload_n 2, 1) := by decide +kernel
theorem dX5_put_59 : decode cX5_put 59 = .ok (.iload_n 3, 1) := by decide +kernel
theorem dX5_put_60 : decode cX5_put 60 = .ok (.invokevirtual 79, 3) := by decide +kernel
theorem dX5_put_63 : decode cX5_put 63 = .ok (.aload_n 0, 1) := by decide +kernel
theorem dX5_put_64 : decode cX5_put 64 = .ok (.iload_n 1, 1) := by decide +kernel
theorem dX5_put_65 : decode cX5_put 65 = .ok (.iconst (-1), 1) := by decide +kernel
theorem dX5_put_66 : decode cX5_put 66 = .ok (.invokevirtual 62, 3) := by decide +kernel
theorem dX5_put_69 : decode cX5_put 69 = .ok (.aload_n 0, 1) := by decide +kernel
theorem dX5_put_70 : decode cX5_put 70 = .ok (.iload 4, 2) := by decide +kernel
theorem dX5_put_72 : decode cX5_put 72 = .ok (.invokevirtual 82, 3) := by decide +kernel
theorem dX5_put_75 : decode cX5_put 75 = .ok (.ireturn, 1) := by decide +kernel
theorem dX5_lacks_0 : decode cX5_lacks 0 = .ok (.iload_n 1, 1) := by decide +kernel
theorem dX5_lacks_1 : decode cX5_lacks 1 = .ok (.invokestatic 68, 3) := by decide +kernel
theorem dX5_lacks_4 : decode cX5_lacks 4 = .ok (.ifCond .ne 7, 3) := by decide +kernel
theorem dX5_lacks_7 : decode cX5_lacks 7 = .ok (.iconst 1, 1) := by decide +kernel
theorem dX5_lacks_8 : decode cX5_lacks 8 = .ok (.goto 28, 3) := by decide +kernel
theorem dX5_lacks_11 : decode cX5_lacks 11 = .ok (.iload_n 1, 1) := by decide +kernel
theorem dX5_lacks_12 : decode cX5_lacks 12 = .ok (.invokestatic 86, 3) := by decide +kernel
theorem dX5_lacks_15 : decode cX5_lacks 15 = .ok (.ifCond .ne 7, 3) := by decide +kernel
theorem dX5_lacks_18 : decode cX5_lacks 18 = .ok (.iconst 2, 1) := by decide +kernel
theorem dX5_lacks_19 : decode cX5_lacks 19 = .ok (.goto 17, 3) := by decide +kernel
theorem dX5_lacks_22 : decode cX5_lacks 22 = .ok (.aload_n 0, 1) := by decide +kernel
theorem dX5_lacks_23 : decode cX5_lacks 23 = .ok (.iload_n 1, 1) := by decide +kernel
theorem dX5_lacks_24 : decode cX5_lacks 24 = .ok (.iload_n 2, 1) := by decide +kernel
theorem dX5_lacks_25 : decode cX5_lacks 25 = .ok (.invokevirtual 75, 3) := by decide +kernel
theorem dX5_lacks_28 : decode cX5_lacks 28 = .ok (.ifCond .eq 7, 3) := by decide +kernel
theorem dX5_lacks_31 : decode cX5_lacks 31 = .ok (.iconst 3, 1) := by decide +kernel
theorem dX5_lacks_32 : decode cX5_lacks 32 = .ok (.goto 4, 3) := by decide +kernel
theorem dX5_lacks_35 : decode cX5_lacks 35 = .ok (.iconst 0, 1) := by decide +kernel
theorem dX5_lacks_36 : decode cX5_lacks 36 = .ok (.ireturn, 1) := by decide +kernel
theorem dX5_putNew_0 : decode cX5_putNew 0 = .ok (.aload_n 0, 1) := by decide +kernel
theorem dX5_putNew_1 : decode cX5_putNew 1 = .ok (.iload_n 1, 1) := by decide +kernel
theorem dX5_putNew_2 : decode cX5_putNew 2 = .ok (.iload_n 2, 1) := by decide +kernel
theorem dX5_putNew_3 : decode cX5_putNew 3 = .ok (.invokevirtual 89, 3) := by decide +kernel
