theorem dX5_isTrue_155 : decode cX5_isTrue 155 = .ok (.iadd, 1) := by decide +kernel
theorem dX5_isTrue_156 : decode cX5_isTrue 156 = .ok (.istore 4, 2) := by decide +kernel
theorem dX5_isTrue_158 : decode cX5_isTrue 158 = .ok (.iinc 5 1, 3) := by decide +kernel
theorem dX5_isTrue_161 : decode cX5_isTrue 161 = .ok (.goto (-46), 3) := by decide +kernel
theorem dX5_isTrue_164 : decode cX5_isTrue 164 = .ok (.iload_n 3, 1) := by decide +kernel
theorem dX5_isTrue_165 : decode cX5_isTrue 165 = .ok (.ifCond .eq 13, 3) := by decide +kernel
theorem dX5_isTrue_168 : decode cX5_isTrue 168 = .ok (.iload_n 2, 1) := by decide +kernel
theorem dX5_isTrue_169 : decode cX5_isTrue 169 = .ok (.iload 4, 2) := by decide +kernel
theorem dX5_isTrue_171 : decode cX5_isTrue 171 = .ok (.if_icmp .ne 7, 3) := by decide +kernel
theorem dX5_isTrue_174 : decode cX5_isTrue 174 = .ok (.iconst 1, 1) := by decide +kernel
theorem dX5_isTrue_175 : decode cX5_isTrue 175 = .ok (.goto 4, 3) := by decide +kernel
theorem dX5_isTrue_178 : decode cX5_isTrue 178 = .ok (.iconst 0, 1) := by decide +kernel
theorem dX5_isTrue_179 : decode cX5_isTrue 179 = .ok (.ireturn, 1) := by decide +kernel
theorem dX5_errors_0 : decode cX5_errors 0 = .ok (.iconst 0, 1) := by decide +kernel
theorem dX5_errors_1 : decode cX5_errors 1 = .ok (.istore_n 1, 1) := by decide +kernel
theorem dX5_errors_2 : decode cX5_errors 2 = .ok (.iconst 0, 1) := by decide +kernel
theorem dX5_errors_3 : decode cX5_errors 3 = .ok (.istore_n 2, 1) := by decide +kernel
theorem dX5_errors_4 : decode cX5_errors 4 = .ok (.iload_n 2, 1) := by decide +kernel
theorem dX5_errors_5 : decode cX5_errors 5 = .ok (.iconst 4, 1) := by decide +kernel
theorem dX5_errors_6 : decode cX5_errors 6 = .ok (.if_icmp .ge 25, 3) := by decide +kernel
theorem dX5_errors_9 : decode cX5_errors 9 = .ok (.iload_n 1, 1) := by decide +kernel
theorem dX5_errors_10 : decode cX5_errors 10 = .ok (.aload_n 0, 1) := by decide +kernel
theorem dX5_errors_11 : decode cX5_errors 11 = .ok (.iload_n 2, 1) := by decide +kernel
theorem dX5_errors_12 : decode cX5_errors 12 = .ok (.invokevirtual 123, 3) := by decide +kernel
theorem dX5_errors_15 : decode cX5_errors 15 = .ok (.ifCond .eq 7, 3) := by decide +kernel
theorem dX5_errors_18 : decode cX5_errors 18 = .ok (.iconst 0, 1) := by decide +kernel
theorem dX5_errors_19 : decode cX5_errors 19 = .ok (.goto 4, 3) := by decide +kernel
theorem dX5_errors_22 : decode cX5_errors 22 = .ok (.iconst 1, 1) := by decide +kernel
theorem dX5_errors_23 : decode cX5_errors 23 = .ok (.iadd, 1) := by decide +kernel
theorem dX5_errors_24 : decode cX5_errors 24 = .ok (.istore_n 1, 1) := by decide +kernel
theorem dX5_errors_25 : decode cX5_errors 25 = .ok (.iinc 2 1, 3) := by decide +kernel
theorem dX5_errors_28 : decode cX5_errors 28 = .ok (.goto (-24), 3) := by decide +kernel
theorem dX5_errors_31 : decode cX5_errors 31 = .ok (.aload_n 0, 1) := by decide +kernel
theorem dX5_errors_32 : decode cX5_errors 32 = .ok (.iload_n 1, 1) := by decide +kernel
theorem dX5_errors_33 : decode cX5_errors 33 = .ok (.invokevirtual 65, 3) := by decide +kernel
theorem dX5_errors_36 : decode cX5_errors 36 = .ok (.ireturn, 1) := by decide +kernel
theorem dJ9_abs_067f4_0 : decode cJ9_abs_067f4 0 = .ok (.lload_n 0, 1) := by decide +kernel
theorem dJ9_abs_067f4_1 : decode cJ9_abs_067f4 1 = .ok (.lconst 0, 1) := by decide +kernel
theorem dJ9_abs_067f4_2 : decode cJ9_abs_067f4 2 = .ok (.lcmp, 1) := by decide +kernel
theorem dJ9_abs_067f4_3 : decode cJ9_abs_067f4 3 = .ok (.ifCond .ge 8, 3) := by decide +kernel
theorem dJ9_abs_067f4_6 : decode cJ9_abs_067f4 6 = .ok (.lload_n 0, 1) := by decide +kernel
theorem dJ9_abs_067f4_7 : decode cJ9_abs_067f4 7 = .ok (.lneg, 1) := by decide +kernel
theorem dJ9_abs_067f4_8 : decode cJ9_abs_067f4 8 = .ok (.goto 4, 3) := by decide +kernel
theorem dJ9_abs_067f4_11 : decode cJ9_abs_067f4 11 = .ok (.lload_n 0, 1) := by decide +kernel
theorem dJ9_abs_067f4_12 : decode cJ9_abs_067f4 12 = .ok (.lreturn, 1) := by decide +kernel
theorem dL_rebind_0 : decode cL_rebind 0 = .ok (.aload_n 2, 1) := by decide +kernel
theorem dL_rebind_1 : decode cL_rebind 1 = .ok (.iconst 0, 1) := by decide +kernel
theorem dL_rebind_2 : decode cL_rebind 2 = .ok (.aload_n 0, 1) := by decide +kernel
theorem dL_rebind_3 : decode cL_rebind 3 = .ok (.iload_n 1, 1) := by decide +kernel
theorem dL_rebind_4 : decode cL_rebind 4 = .ok (.invokevirtual 7, 3) := by decide +kernel
theorem dL_rebind_7 : decode cL_rebind 7 = .ok (.i2l, 1) := by decide +kernel
theorem dL_rebind_8 : decode cL_rebind 8 = .ok (.lastore, 1) := by decide +kernel
theorem dL_rebind_9 : decode cL_rebind 9 = .ok (.goto 6, 3) := by decide +kernel
theorem dL_rebind_12 : decode cL_rebind 12 = .ok (.astore_n 3, 1) := by decide +kernel
theorem dL_rebind_13 : decode cL_rebind 13 = .ok (.iconst 1, 1) := by decide +kernel
theorem dL_rebind_14 : decode cL_rebind 14 = .ok (.ireturn, 1) := by decide +kernel
theorem dL_rebind_15 : decode cL_rebind 15 = .ok (.iconst 0, 1) := by decide +kernel
theorem dL_rebind_16 : decode cL_rebind 16 = .ok (.ireturn, 1) := by decide +kernel
theorem dL_put_0 : decode cL_put 0 = .ok (.aload 4, 2) := by decide +kernel
theorem dL_put_2 : decode cL_put 2 = .ok (.iconst 0, 1) := by decide +kernel
theorem dL_put_3 : decode cL_put 3 = .ok (.aload_n 0, 1) := by decide +kernel
theorem dL_put_4 : decode cL_put 4 = .ok (.iload_n 1, 1) := by decide +kernel
theorem dL_put_5 : decode cL_put 5 = .ok (.iload_n 2, 1) := by decide +kernel
theorem dL_put_6 : decode cL_put 6 = .ok (.iload_n 3, 1) := by decide +kernel
theorem dL_put_7 : decode cL_put 7 = .ok (.invokevirtual 15, 3) := by decide +kernel
theorem dL_put_10 : decode cL_put 10 = .ok (.ifCond .eq 7, 3) := by decide +kernel
theorem dL_put_13 : decode cL_put 13 = .ok (.lconst 1, 1) := by decide +kernel
theorem dL_put_14 : decode cL_put 14 = .ok (.goto 4, 3) := by decide +kernel
theorem dL_put_17 : decode cL_put 17 = .ok (.lconst 0, 1) := by decide +kernel
theorem dL_put_18 : decode cL_put 18 = .ok (.lastore, 1) := by decide +kernel
theorem dL_put_19 : decode cL_put 19 = .ok (.goto 15, 3) := by decide +kernel
theorem dL_put_22 : decode cL_put 22 = .ok (.astore 5, 2) := by decide +kernel
theorem dL_put_24 : decode cL_put 24 = .ok (.iconst 1, 1) := by decide +kernel
theorem dL_put_25 : decode cL_put 25 = .ok (.ireturn, 1) := by decide +kernel
theorem dL_put_26 : decode cL_put 26 = .ok (.astore 5, 2) := by decide +kernel
theorem dL_put_28 : decode cL_put 28 = .ok (.iconst 2, 1) := by decide +kernel
theorem dL_put_29 : decode cL_put 29 = .ok (.ireturn, 1) := by decide +kernel
theorem dL_put_30 : decode cL_put 30 = .ok (.astore 5, 2) := by decide +kernel
theorem dL_put_32 : decode cL_put 32 = .ok (.iconst 3, 1) := by decide +kernel
theorem dL_put_33 : decode cL_put 33 = .ok (.ireturn, 1) := by decide +kernel
theorem dL_put_34 : decode cL_put 34 = .ok (.iconst 0, 1) := by decide +kernel
theorem dL_put_35 : decode cL_put 35 = .ok (.ireturn, 1) := by decide +kernel
theorem dL_putNew_0 : decode cL_putNew 0 = .ok (.aload 4, 2) := by decide +kernel
theorem dL_putNew_2 : decode cL_putNew 2 = .ok (.iconst 0, 1) := by decide +kernel
theorem dL_putNew_3 : decode cL_putNew 3 = .ok (.aload_n 0, 1) := by decide +kernel
theorem dL_putNew_4 : decode cL_putNew 4 = .ok (.iload_n 1, 1) := by decide +kernel
theorem dL_putNew_5 : decode cL_putNew 5 = .ok (.iload_n 2, 1) := by decide +kernel
theorem dL_putNew_6 : decode cL_putNew 6 = .ok (.iload_n 3, 1) := by decide +kernel
theorem dL_putNew_7 : decode cL_putNew 7 = .ok (.invokevirtual 23, 3) := by decide +kernel
theorem dL_putNew_10 : decode cL_putNew 10 = .ok (.i2l, 1) := by decide +kernel
theorem dL_putNew_11 : decode cL_putNew 11 = .ok (.lastore, 1) := by decide +kernel
theorem dL_putNew_12 : decode cL_putNew 12 = .ok (.goto 15, 3) := by decide +kernel
theorem dL_putNew_15 : decode cL_putNew 15 = .ok (.astore 5, 2) := by decide +kernel
theorem dL_putNew_17 : decode cL_putNew 17 = .ok (.iconst 1, 1) := by decide +kernel
theorem dL_putNew_18 : decode cL_putNew 18 = .ok (.ireturn, 1) := by decide +kernel
theorem dL_putNew_19 : decode cL_putNew 19 = .ok (.astore 5, 2) := by decide +kernel
theorem dL_putNew_21 : decode cL_putNew 21 = .ok (.iconst 2, 1) := by decide +kernel
theorem dL_putNew_22 : decode cL_putNew 22 = .ok (.ireturn, 1) := by decide +kernel
theorem dL_putNew_23 : decode cL_putNew 23 = .ok (.astore 5, 2) := by decide +kernel
theorem dL_putNew_25 : decode cL_putNew 25 = .ok (.iconst 3, 1) := by decide +kernel
theorem dL_putNew_26 : decode cL_putNew 26 = .ok (.ireturn, 1) := by decide +kernel
theorem dL_putNew_27 : decode cL_putNew 27 = .ok (.iconst 0, 1) := by decide +kernel
theorem dL_putNew_28 : decode cL_putNew 28 = .ok (.ireturn, 1) := by decide +kernel
theorem dL_add_0 : decode cL_add 0 = .ok (.aload 4, 2) := by decide +kernel
theorem dL_add_2 : decode cL_add 2 = .ok (.iconst 0, 1) := by decide +kernel
theorem dL_add_3 : decode cL_add 3 = .ok (.aload_n 0, 1) := by decide +kernel
theorem dL_add_4 : decode cL_add 4 = .ok (.iload_n 1, 1) := by decide +kernel
theorem dL_add_5 : decode cL_add 5 = .ok (.iload_n 2, 1) := by decide +kernel
theorem dL_add_6 : decode cL_add 6 = .ok (.iload_n 3, 1) := by decide +kernel
theorem dL_add_7 : decode cL_add 7 = .ok (.invokevirtual 27, 3) := by decide +kernel
theorem dL_add_10 : decode cL_add 10 = .ok (.i2l, 1) := by decide +kernel
theorem dL_add_11 : decode cL_add 11 = .ok (.lastore, 1) := by decide +kernel
theorem dL_add_12 : decode cL_add 12 = .ok (.goto 15, 3) := by decide +kernel
theorem dL_add_15 : decode cL_add 15 = .ok (.astore 5, 2) := by decide +kernel
theorem dL_add_17 : decode cL_add 17 = .ok (.iconst 1, 1) := by decide +kernel
theorem dL_add_18 : decode cL_add 18 = .ok (.ireturn, 1) := by decide +kernel
theorem dL_add_19 : decode cL_add 19 = .ok (.astore 5, 2) := by decide +kernel
theorem dL_add_21 : decode cL_add 21 = .ok (.iconst 2, 1) := by decide +kernel
theorem dL_add_22 : decode cL_add 22 = .ok (.ireturn, 1) := by decide +kernel
theorem dL_add_23 : decode cL_add 23 = .ok (.astore 5, 2) := by decide +kernel
theorem dL_add_25 : decode cL_add 25 = .ok (.iconst 3, 1) := by decide +kernel
theorem dL_add_26 : decode cL_add 26 = .ok (.ireturn, 1) := by decide +kernel
theorem dL_add_27 : decode cL_add 27 = .ok (.iconst 0, 1) := by decide +kernel
theorem dL_add_28 : decode cL_add 28 = .ok (.ireturn, 1) := by decide +kernel
theorem dL_halve_0 : decode cL_halve 0 = .ok (.aload_n 3, 1) := by decide +kernel
theorem dL_halve_1 : decode cL_halve 1 = .ok (.iconst 0, 1) := by decide +kernel
theorem dL_halve_2 : decode cL_halve 2 = .ok (.aload_n 0, 1) := by decide +kernel
theorem dL_halve_3 : decode cL_halve 3 = .ok (.iload_n 1, 1) := by decide +kernel
theorem dL_halve_4 : decode cL_halve 4 = .ok (.iload_n 2, 1) := by decide +kernel
theorem dL_halve_5 : decode cL_halve 5 = .ok (.invokevirtual 30, 3) := by decide +kernel
theorem dL_halve_8 : decode cL_halve 8 = .ok (.ifCond .eq 7, 3) := by decide +kernel
theorem dL_halve_11 : decode cL_halve 11 = .ok (.lconst 1, 1) := by decide +kernel
theorem dL_halve_12 : decode cL_halve 12 = .ok (.goto 4, 3) := by decide +kernel
theorem dL_halve_15 : decode cL_halve 15 = .ok (.lconst 0, 1) := by decide +kernel
theorem dL_halve_16 : decode cL_halve 16 = .ok (.lastore, 1) := by decide +kernel
theorem dL_halve_17 : decode cL_halve 17 = .ok (.goto 11, 3) := by decide +kernel
theorem dL_halve_20 : decode cL_halve 20 = .ok (.astore 4, 2) := by decide +kernel
theorem dL_halve_22 : decode cL_halve 22 = .ok (.iconst 1, 1) := by decide +kernel
theorem dL_halve_23 : decode cL_halve 23 = .ok (.ireturn, 1) := by decide +kernel
theorem dL_halve_24 : decode cL_halve 24 = .ok (.astore 4, 2) := by decide +kernel
theorem dL_halve_26 : decode cL_halve 26 = .ok (.iconst 2, 1) := by decide +kernel
theorem dL_halve_27 : decode cL_halve 27 = .ok (.ireturn, 1) := by decide +kernel
theorem dL_halve_28 : decode cL_halve 28 = .ok (.iconst 0, 1) := by decide +kernel
theorem dL_halve_29 : decode cL_halve 29 = .ok (.ireturn, 1) := by decide +kernel
theorem dL_addToAll_0 : decode cL_addToAll 0 = .ok (.aload_n 3, 1) := by decide +kernel
theorem dL_addToAll_1 : decode cL_addToAll 1 = .ok (.iconst 0, 1) := by decide +kernel
theorem dL_addToAll_2 : decode cL_addToAll 2 = .ok (.aload_n 0, 1) := by decide +kernel
theorem dL_addToAll_3 : decode cL_addToAll 3 = .ok (.iload_n 1, 1) := by decide +kernel
theorem dL_addToAll_4 : decode cL_addToAll 4 = .ok (.iload_n 2, 1) := by decide +kernel
theorem dL_addToAll_5 : decode cL_addToAll 5 = .ok (.invokevirtual 34, 3) := by decide +kernel
theorem dL_addToAll_8 : decode cL_addToAll 8 = .ok (.i2l, 1) := by decide +kernel
theorem dL_addToAll_9 : decode cL_addToAll 9 = .ok (.lastore, 1) := by decide +kernel
theorem dL_addToAll_10 : decode cL_addToAll 10 = .ok (.goto 11, 3) := by decide +kernel
theorem dL_addToAll_13 : decode cL_addToAll 13 = .ok (.astore 4, 2) := by decide +kernel
theorem dL_addToAll_15 : decode cL_addToAll 15 = .ok (.iconst 1, 1) := by decide +kernel
theorem dL_addToAll_16 : decode cL_addToAll 16 = .ok (.ireturn, 1) := by decide +kernel
theorem dL_addToAll_17 : decode cL_addToAll 17 = .ok (.astore 4, 2) := by decide +kernel
theorem dL_addToAll_19 : decode cL_addToAll 19 = .ok (.iconst 2, 1) := by decide +kernel
theorem dL_addToAll_20 : decode cL_addToAll 20 = .ok (.ireturn, 1) := by decide +kernel
theorem dL_addToAll_21 : decode cL_addToAll 21 = .ok (.iconst 0, 1) := by decide +kernel
theorem dL_addToAll_22 : decode cL_addToAll 22 = .ok (.ireturn, 1) := by decide +kernel
theorem dL_replace_0 : decode cL_replace 0 = .ok (.aload 4, 2) := by decide +kernel
theorem dL_replace_2 : decode cL_replace 2 = .ok (.iconst 0, 1) := by decide +kernel
theorem dL_replace_3 : decode cL_replace 3 = .ok (.aload_n 0, 1) := by decide +kernel
theorem dL_replace_4 : decode cL_replace 4 = .ok (.iload_n 1, 1) := by decide +kernel
theorem dL_replace_5 : decode cL_replace 5 = .ok (.iload_n 2, 1) := by decide +kernel
theorem dL_replace_6 : decode cL_replace 6 = .ok (.iload_n 3, 1) := by decide +kernel
theorem dL_replace_7 : decode cL_replace 7 = .ok (.invokevirtual 38, 3) := by decide +kernel
theorem dL_replace_10 : decode cL_replace 10 = .ok (.ifCond .eq 7, 3) := by decide +kernel
theorem dL_replace_13 : decode cL_replace 13 = .ok (.lconst 1, 1) := by decide +kernel
theorem dL_replace_14 : decode cL_replace 14 = .ok (.goto 4, 3) := by decide +kernel
theorem dL_replace_17 : decode cL_replace 17 = .ok (.lconst 0, 1) := by decide +kernel
theorem dL_replace_18 : decode cL_replace 18 = .ok (.lastore, 1) := by decide +kernel
theorem dL_replace_19 : decode cL_replace 19 = .ok (.goto 11, 3) := by decide +kernel
theorem dL_replace_22 : decode cL_replace 22 = .ok (.astore 5, 2) := by decide +kernel
theorem dL_replace_24 : decode cL_replace 24 = .ok (.iconst 1, 1) := by decide +kernel
theorem dL_replace_25 : decode cL_replace 25 = .ok (.ireturn, 1) := by decide +kernel
theorem dL_replace_26 : decode cL_replace 26 = .ok (.astore 5, 2) := by decide +kernel
theorem dL_replace_28 : decode cL_replace 28 = .ok (.iconst 2, 1) := by decide +kernel
theorem dL_replace_29 : decode cL_replace 29 = .ok (.ireturn, 1) := by decide +kernel
theorem dL_replace_30 : decode cL_replace 30 = .ok (.iconst 0, 1) := by decide +kernel
theorem dL_replace_31 : decode cL_replace 31 = .ok (.ireturn, 1) := by decide +kernel
theorem dL_remove_0 : decode cL_remove 0 = .ok (.aload_n 3, 1) := by decide +kernel
theorem dL_remove_1 : decode cL_remove 1 = .ok (.iconst 0, 1) := by decide +kernel
theorem dL_remove_2 : decode cL_remove 2 = .ok (.aload_n 0, 1) := by decide +kernel
theorem dL_remove_3 : decode cL_remove 3 = .ok (.iload_n 1, 1) := by decide +kernel
theorem dL_remove_4 : decode cL_remove 4 = .ok (.iload_n 2, 1) := by decide +kernel
theorem dL_remove_5 : decode cL_remove 5 = .ok (.invokevirtual 41, 3) := by decide +kernel
theorem dL_remove_8 : decode cL_remove 8 = .ok (.i2l, 1) := by decide +kernel
theorem dL_remove_9 : decode cL_remove 9 = .ok (.lastore, 1) := by decide +kernel
theorem dL_remove_10 : decode cL_remove 10 = .ok (.goto 15, 3) := by decide +kernel
theorem dL_remove_13 : decode cL_remove 13 = .ok (.astore 4, 2) := by decide +kernel
theorem dL_remove_15 : decode cL_remove 15 = .ok (.iconst 1, 1) := by decide +kernel
theorem dL_remove_16 : decode cL_remove 16 = .ok (.ireturn, 1) := by decide +kernel
theorem dL_remove_17 : decode cL_remove 17 = .ok (.astore 4, 2) := by decide +kernel
theorem dL_remove_19 : decode cL_remove 19 = .ok (.iconst 2, 1) := by decide +kernel
theorem dL_remove_20 : decode cL_remove 20 = .ok (.ireturn, 1) := by decide +kernel
theorem dL_remove_21 : decode cL_remove 21 = .ok (.astore 4, 2) := by decide +kernel
theorem dL_remove_23 : decode cL_remove 23 = .ok (.iconst 3, 1) := by decide +kernel
theorem dL_remove_24 : decode cL_remove 24 = .ok (.ireturn, 1) := by decide +kernel
theorem dL_remove_25 : decode cL_remove 25 = .ok (.iconst 0, 1) := by decide +kernel
theorem dL_remove_26 : decode cL_remove 26 = .ok (.ireturn, 1) := by decide +kernel
theorem dL_removePair_0 : decode cL_removePair 0 = .ok (.aload 4, 2) := by decide +kernel
theorem dL_removePair_2 : decode cL_removePair 2 = .ok (.iconst 0, 1) := by decide +kernel
theorem dL_removePair_3 : decode cL_removePair 3 = .ok (.aload_n 0, 1) := by decide +kernel
theorem dL_removePair_4 : decode cL_removePair 4 = .ok (.iload_n 1, 1) := by decide +kernel
theorem dL_removePair_5 : decode cL_removePair 5 = .ok (.iload_n 2, 1) := by decide +kernel
theorem dL_removePair_6 : decode cL_removePair 6 = .ok (.iload_n 3, 1) := by decide +kernel
theorem dL_removePair_7 : decode cL_removePair 7 = .ok (.invokevirtual 46, 3) := by decide +kernel
theorem dL_removePair_10 : decode cL_removePair 10 = .ok (.ifCond .eq 7, 3) := by decide +kernel
theorem dL_removePair_13 : decode cL_removePair 13 = .ok (.lconst 1, 1) := by decide +kernel
theorem dL_removePair_14 : decode cL_removePair 14 = .ok (.goto 4, 3) := by decide +kernel
theorem dL_removePair_17 : decode cL_removePair 17 = .ok (.lconst 0, 1) := by decide +kernel
theorem dL_removePair_18 : decode cL_removePair 18 = .ok (.lastore, 1) := by decide +kernel
theorem dL_removePair_19 : decode cL_removePair 19 = .ok (.goto 11, 3) := by decide +kernel
theorem dL_removePair_22 : decode cL_removePair 22 = .ok (.astore 5, 2) := by decide +kernel
theorem dL_removePair_24 : decode cL_removePair 24 = .ok (.iconst 1, 1) := by decide +kernel
theorem dL_removePair_25 : decode cL_removePair 25 = .ok (.ireturn, 1) := by decide +kernel
theorem dL_removePair_26 : decode cL_removePair 26 = .ok (.astore 5, 2) := by decide +kernel
theorem dL_removePair_28 : decode cL_removePair 28 = .ok (.iconst 2, 1) := by decide +kernel
theorem dL_removePair_29 : decode cL_removePair 29 = .ok (.ireturn, 1) := by decide +kernel
theorem dL_removePair_30 : decode cL_removePair 30 = .ok (.iconst 0, 1) := by decide +kernel
theorem dL_removePair_31 : decode cL_removePair 31 = .ok (.ireturn, 1) := by decide +kernel
theorem dL_fill_0 : decode cL_fill 0 = .ok (.aload 5, 2) := by decide +kernel
theorem dL_fill_2 : decode cL_fill 2 = .ok (.iconst 0, 1) := by decide +kernel
theorem dL_fill_3 : decode cL_fill 3 = .ok (.aload_n 0, 1) := by decide +kernel
theorem dL_fill_4 : decode cL_fill 4 = .ok (.iload_n 1, 1) := by decide +kernel
theorem dL_fill_5 : decode cL_fill 5 = .ok (.iload_n 2, 1) := by decide +kernel
theorem dL_fill_6 : decode cL_fill 6 = .ok (.iload_n 3, 1) := by decide +kernel
theorem dL_fill_7 : decode cL_fill 7 = .ok (.iload 4, 2) := by decide +kernel
theorem dL_fill_9 : decode cL_fill 9 = .ok (.invokevirtual 49, 3) := by decide +kernel
theorem dL_fill_12 : decode cL_fill 12 = .ok (.i2l, 1) := by decide +kernel
theorem dL_fill_13 : decode cL_fill 13 = .ok (.lastore, 1) := by decide +kernel
theorem dL_fill_14 : decode cL_fill 14 = .ok (.goto 15, 3) := by decide +kernel
theorem dL_fill_17 : decode cL_fill 17 = .ok (.astore 6, 2) := by decide +kernel
theorem dL_fill_19 : decode cL_fill 19 = .ok (.iconst 1, 1) := by decide +kernel
theorem dL_fill_20 : decode cL_fill 20 = .ok (.ireturn, 1) := by decide +kernel
theorem dL_fill_21 : decode cL_fill 21 = .ok (.astore 6, 2) := by decide +kernel
theorem dL_fill_23 : decode cL_fill 23 = .ok (.iconst 2, 1) := by decide +kernel
theorem dL_fill_24 : decode cL_fill 24 = .ok (.ireturn, 1) := by decide +kernel
theorem dL_fill_25 : decode cL_fill 25 = .ok (.astore 6, 2) := by decide +kernel
theorem dL_fill_27 : decode cL_fill 27 = .ok (.iconst 3, 1) := by decide +kernel
theorem dL_fill_28 : decode cL_fill 28 = .ok (.ireturn, 1) := by decide +kernel
theorem dL_fill_29 : decode cL_fill 29 = .ok (.iconst 0, 1) := by decide +kernel
theorem dL_fill_30 : decode cL_fill 30 = .ok (.ireturn, 1) := by decide +kernel
theorem dL_pour_0 : decode cL_pour 0 = .ok (.aload_n 3, 1) := by decide +kernel
theorem dL_pour_1 : decode cL_pour 1 = .ok (.iconst 0, 1) := by decide +kernel
theorem dL_pour_2 : decode cL_pour 2 = .ok (.aload_n 0, 1) := by decide +kernel
theorem dL_pour_3 : decode cL_pour 3 = .ok (.iload_n 1, 1) := by decide +kernel
theorem dL_pour_4 : decode cL_pour 4 = .ok (.iload_n 2, 1) := by decide +kernel
theorem dL_pour_5 : decode cL_pour 5 = .ok (.invokevirtual 53, 3) := by decide +kernel
theorem dL_pour_8 : decode cL_pour 8 = .ok (.i2l, 1) := by decide +kernel
theorem dL_pour_9 : decode cL_pour 9 = .ok (.lastore, 1) := by decide +kernel
theorem dL_pour_10 : decode cL_pour 10 = .ok (.goto 15, 3) := by decide +kernel
theorem dL_pour_13 : decode cL_pour 13 = .ok (.astore 4, 2) := by decide +kernel
theorem dL_pour_15 : decode cL_pour 15 = .ok (.iconst 1, 1) := by decide +kernel
theorem dL_pour_16 : decode cL_pour 16 = .ok (.ireturn, 1) := by decide +kernel
theorem dL_pour_17 : decode cL_pour 17 = .ok (.astore 4, 2) := by decide +kernel
theorem dL_pour_19 : decode cL_pour 19 = .ok (.iconst 2, 1) := by decide +kernel
theorem dL_pour_20 : decode cL_pour 20 = .ok (.ireturn, 1) := by decide +kernel
theorem dL_pour_21 : decode cL_pour 21 = .ok (.astore 4, 2) := by decide +kernel
theorem dL_pour_23 : decode cL_pour 23 = .ok (.iconst 3, 1) := by decide +kernel
theorem dL_pour_24 : decode cL_pour 24 = .ok (.ireturn, 1) := by decide +kernel
theorem dL_pour_25 : decode cL_pour 25 = .ok (.iconst 0, 1) := by decide +kernel
theorem dL_pour_26 : decode cL_pour 26 = .ok (.ireturn, 1) := by decide +kernel
theorem dL_copy_0 : decode cL_copy 0 = .ok (.aload_n 3, 1) := by decide +kernel
theorem dL_copy_1 : decode cL_copy 1 = .ok (.iconst 0, 1) := by decide +kernel
theorem dL_copy_2 : decode cL_copy 2 = .ok (.aload_n 0, 1) := by decide +kernel
theorem dL_copy_3 : decode cL_copy 3 = .ok (.iload_n 1, 1) := by decide +kernel
theorem dL_copy_4 : decode cL_copy 4 = .ok (.iload_n 2, 1) := by decide +kernel
theorem dL_copy_5 : decode cL_copy 5 = .ok (.invokevirtual 56, 3) := by decide +kernel
theorem dL_copy_8 : decode cL_copy 8 = .ok (.i2l, 1) := by decide +kernel
theorem dL_copy_9 : decode cL_copy 9 = .ok (.lastore, 1) := by decide +kernel
theorem dL_copy_10 : decode cL_copy 10 = .ok (.goto 11, 3) := by decide +kernel
theorem dL_copy_13 : decode cL_copy 13 = .ok (.astore 4, 2) := by decide +kernel
theorem dL_copy_15 : decode cL_copy 15 = .ok (.iconst 1, 1) := by decide +kernel
theorem dL_copy_16 : decode cL_copy 16 = .ok (.ireturn, 1) := by decide +kernel
theorem dL_copy_17 : decode cL_copy 17 = .ok (.astore 4, 2) := by decide +kernel
theorem dL_copy_19 : decode cL_copy 19 = .ok (.iconst 2, 1) := by decide +kernel
theorem dL_copy_20 : decode cL_copy 20 = .ok (.ireturn, 1) := by decide +kernel
theorem dL_copy_21 : decode cL_copy 21 = .ok (.iconst 0, 1) := by decide +kernel
theorem dL_copy_22 : decode cL_copy 22 = .ok (.ireturn, 1) := by decide +kernel
theorem dL_clear_0 : decode cL_clear 0 = .ok (.aload_n 2, 1) := by decide +kernel
theorem dL_clear_1 : decode cL_clear 1 = .ok (.iconst 0, 1) := by decide +kernel
theorem dL_clear_2 : decode cL_clear 2 = .ok (.aload_n 0, 1) := by decide +kernel
theorem dL_clear_3 : decode cL_clear 3 = .ok (.iload_n 1, 1) := by decide +kernel
theorem dL_clear_4 : decode cL_clear 4 = .ok (.invokevirtual 59, 3) := by decide +kernel
theorem dL_clear_7 : decode cL_clear 7 = .ok (.i2l, 1) := by decide +kernel
theorem dL_clear_8 : decode cL_clear 8 = .ok (.lastore, 1) := by decide +kernel
theorem dL_clear_9 : decode cL_clear 9 = .ok (.goto 9, 3) := by decide +kernel
theorem dL_clear_12 : decode cL_clear 12 = .ok (.astore_n 3, 1) := by decide +kernel
theorem dL_clear_13 : decode cL_clear 13 = .ok (.iconst 1, 1) := by decide +kernel
theorem dL_clear_14 : decode cL_clear 14 = .ok (.ireturn, 1) := by decide +kernel
theorem dL_clear_15 : decode cL_clear 15 = .ok (.astore_n 3, 1) := by decide +kernel
theorem dL_clear_16 : decode cL_clear 16 = .ok (.iconst 2, 1) := by decide +kernel
theorem dL_clear_17 : decode cL_clear 17 = .ok (.ireturn, 1) := by decide +kernel
theorem dL_clear_18 : decode cL_clear 18 = .ok (.iconst 0, 1) := by decide +kernel
theorem dL_clear_19 : decode cL_clear 19 = .ok (.ireturn, 1) := by decide +kernel
theorem dL_offer_0 : decode cL_offer 0 = .ok (.aload_n 2, 1) := by decide +kernel
theorem dL_offer_1 : decode cL_offer 1 = .ok (.iconst 0, 1) := by decide +kernel
theorem dL_offer_2 : decode cL_offer 2 = .ok (.aload_n 0, 1) := by decide +kernel
theorem dL_offer_3 : decode cL_offer 3 = .ok (.iload_n 1, 1) := by decide +kernel
theorem dL_offer_4 : decode cL_offer 4 = .ok (.invokevirtual 62, 3) := by decide +kernel
theorem dL_offer_7 : decode cL_offer 7 = .ok (.ifCond .eq 7, 3) := by decide +kernel
theorem dL_offer_10 : decode cL_offer 10 = .ok (.lconst 1, 1) := by decide +kernel
theorem dL_offer_11 : decode cL_offer 11 = .ok (.goto 4, 3) := by decide +kernel
theorem dL_offer_14 : decode cL_offer 14 = .ok (.lconst 0, 1) := by decide +kernel
theorem dL_offer_15 : decode cL_offer 15 = .ok (.lastore, 1) := by decide +kernel
theorem dL_offer_16 : decode cL_offer 16 = .ok (.goto 6, 3) := by decide +kernel
theorem dL_offer_19 : decode cL_offer 19 = .ok (.astore_n 3, 1) := by decide +kernel
theorem dL_offer_20 : decode cL_offer 20 = .ok (.iconst 1, 1) := by decide +kernel
theorem dL_offer_21 : decode cL_offer 21 = .ok (.ireturn, 1) := by decide +kernel
theorem dL_offer_22 : decode cL_offer 22 = .ok (.iconst 0, 1) := by decide +kernel
theorem dL_offer_23 : decode cL_offer 23 = .ok (.ireturn, 1) := by decide +kernel
theorem dL_poll_0 : decode cL_poll 0 = .ok (.aload_n 1, 1) := by decide +kernel
theorem dL_poll_1 : decode cL_poll 1 = .ok (.iconst 0, 1) := by decide +kernel
theorem dL_poll_2 : decode cL_poll 2 = .ok (.aload_n 0, 1) := by decide +kernel
theorem dL_poll_3 : decode cL_poll 3 = .ok (.invokevirtual 66, 3) := by decide +kernel
theorem dL_poll_6 : decode cL_poll 6 = .ok (.i2l, 1) := by decide +kernel
theorem dL_poll_7 : decode cL_poll 7 = .ok (.lastore, 1) := by decide +kernel
theorem dL_poll_8 : decode cL_poll 8 = .ok (.goto 6, 3) := by decide +kernel
theorem dL_poll_11 : decode cL_poll 11 = .ok (.astore_n 2, 1) := by decide +kernel
theorem dL_poll_12 : decode cL_poll 12 = .ok (.iconst 1, 1) := by decide +kernel
theorem dL_poll_13 : decode cL_poll 13 = .ok (.ireturn, 1) := by decide +kernel
theorem dL_poll_14 : decode cL_poll 14 = .ok (.iconst 0, 1) := by decide +kernel
theorem dL_poll_15 : decode cL_poll 15 = .ok (.ireturn, 1) := by decide +kernel
theorem dL_toEnd_0 : decode cL_toEnd 0 = .ok (.aload_n 2, 1) := by decide +kernel
theorem dL_toEnd_1 : decode cL_toEnd 1 = .ok (.iconst 0, 1) := by decide +kernel
theorem dL_toEnd_2 : decode cL_toEnd 2 = .ok (.aload_n 0, 1) := by decide +kernel
theorem dL_toEnd_3 : decode cL_toEnd 3 = .ok (.iload_n 1, 1) := by decide +kernel
theorem dL_toEnd_4 : decode cL_toEnd 4 = .ok (.invokevirtual 70, 3) := by decide +kernel
theorem dL_toEnd_7 : decode cL_toEnd 7 = .ok (.i2l, 1) := by decide +kernel
theorem dL_toEnd_8 : decode cL_toEnd 8 = .ok (.lastore, 1) := by decide +kernel
theorem dL_toEnd_9 : decode cL_toEnd 9 = .ok (.goto 6, 3) := by decide +kernel
theorem dL_toEnd_12 : decode cL_toEnd 12 = .ok (.astore_n 3, 1) := by decide +kernel
theorem dL_toEnd_13 : decode cL_toEnd 13 = .ok (.iconst 1, 1) := by decide +kernel
theorem dL_toEnd_14 : decode cL_toEnd 14 = .ok (.ireturn, 1) := by decide +kernel
theorem dL_toEnd_15 : decode cL_toEnd 15 = .ok (.iconst 0, 1) := by decide +kernel
theorem dL_toEnd_16 : decode cL_toEnd 16 = .ok (.ireturn, 1) := by decide +kernel
theorem dL_open_0 : decode cL_open 0 = .ok (.aload 4, 2) := by decide +kernel
theorem dL_open_2 : decode cL_open 2 = .ok (.iconst 0, 1) := by decide +kernel
theorem dL_open_3 : decode cL_open 3 = .ok (.aload_n 0, 1) := by decide +kernel
theorem dL_open_4 : decode cL_open 4 = .ok (.iload_n 1, 1) := by decide +kernel
theorem dL_open_5 : decode cL_open 5 = .ok (.iload_n 2, 1) := by decide +kernel
theorem dL_open_6 : decode cL_open 6 = .ok (.iload_n 3, 1) := by decide +kernel
theorem dL_open_7 : decode cL_open 7 = .ok (.invokevirtual 73, 3) := by decide +kernel
theorem dL_open_10 : decode cL_open 10 = .ok (.i2l, 1) := by decide +kernel
theorem dL_open_11 : decode cL_open 11 = .ok (.lastore, 1) := by decide +kernel
theorem dL_open_12 : decode cL_open 12 = .ok (.goto 11, 3) := by decide +kernel
theorem dL_open_15 : decode cL_open 15 = .ok (.astore 5, 2) := by decide +kernel
theorem dL_open_17 : decode cL_open 17 = .ok (.iconst 1, 1) := by decide +kernel
theorem dL_open_18 : decode cL_open 18 = .ok (.ireturn, 1) := by decide +kernel
theorem dL_open_19 : decode cL_open 19 = .ok (.astore 5, 2) := by decide +kernel
theorem dL_open_21 : decode cL_open 21 = .ok (.iconst 2, 1) := by decide +kernel
theorem dL_open_22 : decode cL_open 22 = .ok (.ireturn, 1) := by decide +kernel
theorem dL_open_23 : decode cL_open 23 = .ok (.iconst 0, 1) := by decide +kernel
theorem dL_open_24 : decode cL_open 24 = .ok (.ireturn, 1) := by decide +kernel
theorem dL_hasNext_0 : decode cL_hasNext 0 = .ok (.aload_n 2, 1) := by decide +kernel
theorem dL_hasNext_1 : decode cL_hasNext 1 = .ok (.iconst 0, 1) := by decide +kernel
theorem dL_hasNext_2 : decode cL_hasNext 2 = .ok (.aload_n 0, 1) := by decide +kernel
theorem dL_hasNext_3 : decode cL_hasNext 3 = .ok (.iload_n 1, 1) := by decide +kernel
theorem dL_hasNext_4 : decode cL_hasNext 4 = .ok (.invokevirtual 76, 3) := by decide +kernel
theorem dL_hasNext_7 : decode cL_hasNext 7 = .ok (.ifCond .eq 7, 3) := by decide +kernel
theorem dL_hasNext_10 : decode cL_hasNext 10 = .ok (.lconst 1, 1) := by decide +kernel
theorem dL_hasNext_11 : decode cL_hasNext 11 = .ok (.goto 4, 3) := by decide +kernel
theorem dL_hasNext_14 : decode cL_hasNext 14 = .ok (.lconst 0, 1) := by decide +kernel
theorem dL_hasNext_15 : decode cL_hasNext 15 = .ok (.lastore, 1) := by decide +kernel
theorem dL_hasNext_16 : decode cL_hasNext 16 = .ok (.goto 9, 3) := by decide +kernel
theorem dL_hasNext_19 : decode cL_hasNext 19 = .ok (.astore_n 3, 1) := by decide +kernel
theorem dL_hasNext_20 : decode cL_hasNext 20 = .ok (.iconst 1, 1) := by decide +kernel
theorem dL_hasNext_21 : decode cL_hasNext 21 = .ok (.ireturn, 1) := by decide +kernel
theorem dL_hasNext_22 : decode cL_hasNext 22 = .ok (.astore_n 3, 1) := by decide +kernel
theorem dL_hasNext_23 : decode cL_hasNext 23 = .ok (.iconst 2, 1) := by decide +kernel
theorem dL_hasNext_24 : decode cL_hasNext 24 = .ok (.ireturn, 1) := by decide +kernel
theorem dL_hasNext_25 : decode cL_hasNext 25 = .ok (.iconst 0, 1) := by decide +kernel
theorem dL_hasNext_26 : decode cL_hasNext 26 = .ok (.ireturn, 1) := by decide +kernel
theorem dL_next_0 : decode cL_next 0 = .ok (.aload_n 2, 1) := by decide +kernel
theorem dL_next_1 : decode cL_next 1 = .ok (.iconst 0, 1) := by decide +kernel
theorem dL_next_2 : decode cL_next 2 = .ok (.aload_n 0, 1) := by decide +kernel
theorem dL_next_3 : decode cL_next 3 = .ok (.iload_n 1, 1) := by decide +kernel
theorem dL_next_4 : decode cL_next 4 = .ok (.invokevirtual 79, 3) := by decide +kernel
theorem dL_next_7 : decode cL_next 7 = .ok (.i2l, 1) := by decide +kernel
theorem dL_next_8 : decode cL_next 8 = .ok (.lastore, 1) := by decide +kernel
theorem dL_next_9 : decode cL_next 9 = .ok (.goto 12, 3) := by decide +kernel
theorem dL_next_12 : decode cL_next 12 = .ok (.astore_n 3, 1) := by decide +kernel
theorem dL_next_13 : decode cL_next 13 = .ok (.iconst 1, 1) := by decide +kernel
theorem dL_next_14 : decode cL_next 14 = .ok (.ireturn, 1) := by decide +kernel
theorem dL_next_15 : decode cL_next 15 = .ok (.astore_n 3, 1) := by decide +kernel
theorem dL_next_16 : decode cL_next 16 = .ok (.iconst 2, 1) := by decide +kernel
theorem dL_next_17 : decode cL_next 17 = .ok (.ireturn, 1) := by decide +kernel
theorem dL_next_18 : decode cL_next 18 = .ok (.astore_n 3, 1) := by decide +kernel
theorem dL_next_19 : decode cL_next 19 = .ok (.iconst 3, 1) := by decide +kernel
theorem dL_next_20 : decode cL_next 20 = .ok (.ireturn, 1) := by decide +kernel
theorem dL_next_21 : decode cL_next 21 = .ok (.iconst 0, 1) := by decide +kernel
theorem dL_next_22 : decode cL_next 22 = .ok (.ireturn, 1) := by decide +kernel
theorem dL_removeAt_0 : decode cL_removeAt 0 = .ok (.aload_n 2, 1) := by decide +kernel
theorem dL_removeAt_1 : decode cL_removeAt 1 = .ok (.iconst 0, 1) := by decide +kernel
theorem dL_removeAt_2 : decode cL_removeAt 2 = .ok (.aload_n 0, 1) := by decide +kernel
theorem dL_removeAt_3 : decode cL_removeAt 3 = .ok (.iload_n 1, 1) := by decide +kernel
theorem dL_removeAt_4 : decode cL_removeAt 4 = .ok (.invokevirtual 82, 3) := by decide +kernel
theorem dL_removeAt_7 : decode cL_removeAt 7 = .ok (.i2l, 1) := by decide +kernel
theorem dL_removeAt_8 : decode cL_removeAt 8 = .ok (.lastore, 1) := by decide +kernel
theorem dL_removeAt_9 : decode cL_removeAt 9 = .ok (.goto 9, 3) := by decide +kernel
theorem dL_removeAt_12 : decode cL_removeAt 12 = .ok (.astore_n 3, 1) := by decide +kernel
theorem dL_removeAt_13 : decode cL_removeAt 13 = .ok (.iconst 1, 1) := by decide +kernel
theorem dL_removeAt_14 : decode cL_removeAt 14 = .ok (.ireturn, 1) := by decide +kernel
theorem dL_removeAt_15 : decode cL_removeAt 15 = .ok (.astore_n 3, 1) := by decide +kernel
theorem dL_removeAt_16 : decode cL_removeAt 16 = .ok (.iconst 2, 1) := by decide +kernel
theorem dL_removeAt_17 : decode cL_removeAt 17 = .ok (.ireturn, 1) := by decide +kernel
theorem dL_removeAt_18 : decode cL_removeAt 18 = .ok (.iconst 0, 1) := by decide +kernel
theorem dL_removeAt_19 : decode cL_removeAt 19 = .ok (.ireturn, 1) := by decide +kernel
theorem dL_setAt_0 : decode cL_setAt 0 = .ok (.aload_n 3, 1) := by decide +kernel
theorem dL_setAt_1 : decode cL_setAt 1 = .ok (.iconst 0, 1) := by decide +kernel
theorem dL_setAt_2 : decode cL_setAt 2 = .ok (.aload_n 0, 1) := by decide +kernel
theorem dL_setAt_3 : decode cL_setAt 3 = .ok (.iload_n 1, 1) := by decide +kernel
theorem dL_setAt_4 : decode cL_setAt 4 = .ok (.iload_n 2, 1) := by decide +kernel
theorem dL_setAt_5 : decode cL_setAt 5 = .ok (.invokevirtual 85, 3) := by decide +kernel
theorem dL_setAt_8 : decode cL_setAt 8 = .ok (.i2l, 1) := by decide +kernel
theorem dL_setAt_9 : decode cL_setAt 9 = .ok (.lastore, 1) := by decide +kernel
theorem dL_setAt_10 : decode cL_setAt 10 = .ok (.goto 15, 3) := by decide +kernel
theorem dL_setAt_13 : decode cL_setAt 13 = .ok (.astore 4, 2) := by decide +kernel
theorem dL_setAt_15 : decode cL_setAt 15 = .ok (.iconst 1, 1) := by decide +kernel
theorem dL_setAt_16 : decode cL_setAt 16 = .ok (.ireturn, 1) := by decide +kernel
theorem dL_setAt_17 : decode cL_setAt 17 = .ok (.astore 4, 2) := by decide +kernel
theorem dL_setAt_19 : decode cL_setAt 19 = .ok (.iconst 2, 1) := by decide +kernel
theorem dL_setAt_20 : decode cL_setAt 20 = .ok (.ireturn, 1) := by decide +kernel
theorem dL_setAt_21 : decode cL_setAt 21 = .ok (.astore 4, 2) := by decide +kernel
theorem dL_setAt_23 : decode cL_setAt 23 = .ok (.iconst 3, 1) := by decide +kernel
theorem dL_setAt_24 : decode cL_setAt 24 = .ok (.ireturn, 1) := by decide +kernel
theorem dL_setAt_25 : decode cL_setAt 25 = .ok (.iconst 0, 1) := by decide +kernel
theorem dL_setAt_26 : decode cL_setAt 26 = .ok (.ireturn, 1) := by decide +kernel
theorem dL_bookOf_0 : decode cL_bookOf 0 = .ok (.aload_n 2, 1) := by decide +kernel
theorem dL_bookOf_1 : decode cL_bookOf 1 = .ok (.iconst 0, 1) := by decide +kernel
theorem dL_bookOf_2 : decode cL_bookOf 2 = .ok (.aload_n 0, 1) := by decide +kernel
theorem dL_bookOf_3 : decode cL_bookOf 3 = .ok (.iload_n 1, 1) := by decide +kernel
theorem dL_bookOf_4 : decode cL_bookOf 4 = .ok (.invokevirtual 88, 3) := by decide +kernel
theorem dL_bookOf_7 : decode cL_bookOf 7 = .ok (.i2l, 1) := by decide +kernel
theorem dL_bookOf_8 : decode cL_bookOf 8 = .ok (.lastore, 1) := by decide +kernel
theorem dL_bookOf_9 : decode cL_bookOf 9 = .ok (.goto 6, 3) := by decide +kernel
theorem dL_bookOf_12 : decode cL_bookOf 12 = .ok (.astore_n 3, 1) := by decide +kernel
theorem dL_bookOf_13 : decode cL_bookOf 13 = .ok (.iconst 1, 1) := by decide +kernel
theorem dL_bookOf_14 : decode cL_bookOf 14 = .ok (.ireturn, 1) := by decide +kernel
theorem dL_bookOf_15 : decode cL_bookOf 15 = .ok (.iconst 0, 1) := by decide +kernel
theorem dL_bookOf_16 : decode cL_bookOf 16 = .ok (.ireturn, 1) := by decide +kernel
theorem dL_size_0 : decode cL_size 0 = .ok (.aload_n 2, 1) := by decide +kernel
theorem dL_size_1 : decode cL_size 1 = .ok (.iconst 0, 1) := by decide +kernel
theorem dL_size_2 : decode cL_size 2 = .ok (.aload_n 0, 1) := by decide +kernel
theorem dL_size_3 : decode cL_size 3 = .ok (.iload_n 1, 1) := by decide +kernel
theorem dL_size_4 : decode cL_size 4 = .ok (.invokevirtual 91, 3) := by decide +kernel
theorem dL_size_7 : decode cL_size 7 = .ok (.i2l, 1) := by decide +kernel
