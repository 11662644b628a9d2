theorem dX5_putNew_6 : decode cX5_putNew 6 = .ok (.istore 4, 2) := by decide +kernel
theorem dX5_putNew_8 : decode cX5_putNew 8 = .ok (.iload 4, 2) := by decide +kernel
theorem dX5_putNew_10 : decode cX5_putNew 10 = .ok (.ifCond .eq 10, 3) := by decide +kernel
theorem dX5_putNew_13 : decode cX5_putNew 13 = .ok (.aload_n 0, 1) := by decide +kernel
theorem dX5_putNew_14 : decode cX5_putNew 14 = .ok (.iload 4, 2) := by decide +kernel
theorem dX5_putNew_16 : decode cX5_putNew 16 = .ok (.invokevirtual 58, 3) := by decide +kernel
theorem dX5_putNew_19 : decode cX5_putNew 19 = .ok (.ireturn, 1) := by decide +kernel
theorem dX5_putNew_20 : decode cX5_putNew 20 = .ok (.aload_n 0, 1) := by decide +kernel
theorem dX5_putNew_21 : decode cX5_putNew 21 = .ok (.iload_n 1, 1) := by decide +kernel
theorem dX5_putNew_22 : decode cX5_putNew 22 = .ok (.iload_n 2, 1) := by decide +kernel
theorem dX5_putNew_23 : decode cX5_putNew 23 = .ok (.invokevirtual 50, 3) := by decide +kernel
theorem dX5_putNew_26 : decode cX5_putNew 26 = .ok (.iconst (-1), 1) := by decide +kernel
theorem dX5_putNew_27 : decode cX5_putNew 27 = .ok (.if_icmp .ne 10, 3) := by decide +kernel
theorem dX5_putNew_30 : decode cX5_putNew 30 = .ok (.aload_n 0, 1) := by decide +kernel
theorem dX5_putNew_31 : decode cX5_putNew 31 = .ok (.iload_n 1, 1) := by decide +kernel
theorem dX5_putNew_32 : decode cX5_putNew 32 = .ok (.iload_n 2, 1) := by decide +kernel
theorem dX5_putNew_33 : decode cX5_putNew 33 = .ok (.iload_n 3, 1) := by decide +kernel
theorem dX5_putNew_34 : decode cX5_putNew 34 = .ok (.invokevirtual 54, 3) := by decide +kernel
theorem dX5_putNew_37 : decode cX5_putNew 37 = .ok (.aload_n 0, 1) := by decide +kernel
theorem dX5_putNew_38 : decode cX5_putNew 38 = .ok (.iload_n 1, 1) := by decide +kernel
theorem dX5_putNew_39 : decode cX5_putNew 39 = .ok (.iconst (-1), 1) := by decide +kernel
theorem dX5_putNew_40 : decode cX5_putNew 40 = .ok (.invokevirtual 62, 3) := by decide +kernel
theorem dX5_putNew_43 : decode cX5_putNew 43 = .ok (.aload_n 0, 1) := by decide +kernel
theorem dX5_putNew_44 : decode cX5_putNew 44 = .ok (.aload_n 0, 1) := by decide +kernel
theorem dX5_putNew_45 : decode cX5_putNew 45 = .ok (.getfield 13, 3) := by decide +kernel
theorem dX5_putNew_48 : decode cX5_putNew 48 = .ok (.sipush 201, 3) := by decide +kernel
theorem dX5_putNew_51 : decode cX5_putNew 51 = .ok (.iload_n 1, 1) := by decide +kernel
theorem dX5_putNew_52 : decode cX5_putNew 52 = .ok (.imul, 1) := by decide +kernel
theorem dX5_putNew_53 : decode cX5_putNew 53 = .ok (.aload_n 0, 1) := by decide +kernel
theorem dX5_putNew_54 : decode cX5_putNew 54 = .ok (.iload_n 1, 1) := by decide +kernel
theorem dX5_putNew_55 : decode cX5_putNew 55 = .ok (.iload_n 2, 1) := by decide +kernel
theorem dX5_putNew_56 : decode cX5_putNew 56 = .ok (.invokevirtual 50, 3) := by decide +kernel
theorem dX5_putNew_59 : decode cX5_putNew 59 = .ok (.iadd, 1) := by decide +kernel
theorem dX5_putNew_60 : decode cX5_putNew 60 = .ok (.iaload, 1) := by decide +kernel
theorem dX5_putNew_61 : decode cX5_putNew 61 = .ok (.invokevirtual 65, 3) := by decide +kernel
theorem dX5_putNew_64 : decode cX5_putNew 64 = .ok (.ireturn, 1) := by decide +kernel
theorem dX5_add_0 : decode cX5_add 0 = .ok (.aload_n 0, 1) := by decide +kernel
theorem dX5_add_1 : decode cX5_add 1 = .ok (.iload_n 1, 1) := by decide +kernel
theorem dX5_add_2 : decode cX5_add 2 = .ok (.iload_n 2, 1) := by decide +kernel
theorem dX5_add_3 : decode cX5_add 3 = .ok (.invokevirtual 89, 3) := by decide +kernel
theorem dX5_add_6 : decode cX5_add 6 = .ok (.istore 4, 2) := by decide +kernel
theorem dX5_add_8 : decode cX5_add 8 = .ok (.iload 4, 2) := by decide +kernel
theorem dX5_add_10 : decode cX5_add 10 = .ok (.ifCond .eq 10, 3) := by decide +kernel
theorem dX5_add_13 : decode cX5_add 13 = .ok (.aload_n 0, 1) := by decide +kernel
theorem dX5_add_14 : decode cX5_add 14 = .ok (.iload 4, 2) := by decide +kernel
theorem dX5_add_16 : decode cX5_add 16 = .ok (.invokevirtual 58, 3) := by decide +kernel
theorem dX5_add_19 : decode cX5_add 19 = .ok (.ireturn, 1) := by decide +kernel
theorem dX5_add_20 : decode cX5_add 20 = .ok (.aload_n 0, 1) := by decide +kernel
theorem dX5_add_21 : decode cX5_add 21 = .ok (.iload_n 1, 1) := by decide +kernel
theorem dX5_add_22 : decode cX5_add 22 = .ok (.iload_n 2, 1) := by decide +kernel
theorem dX5_add_23 : decode cX5_add 23 = .ok (.invokevirtual 50, 3) := by decide +kernel
theorem dX5_add_26 : decode cX5_add 26 = .ok (.istore 5, 2) := by decide +kernel
theorem dX5_add_28 : decode cX5_add 28 = .ok (.aload_n 0, 1) := by decide +kernel
theorem dX5_add_29 : decode cX5_add 29 = .ok (.iload_n 1, 1) := by decide +kernel
theorem dX5_add_30 : decode cX5_add 30 = .ok (.iload_n 2, 1) := by decide +kernel
theorem dX5_add_31 : decode cX5_add 31 = .ok (.iload 5, 2) := by decide +kernel
theorem dX5_add_33 : decode cX5_add 33 = .ok (.iconst (-1), 1) := by decide +kernel
theorem dX5_add_34 : decode cX5_add 34 = .ok (.if_icmp .ne 7, 3) := by decide +kernel
theorem dX5_add_37 : decode cX5_add 37 = .ok (.iload_n 3, 1) := by decide +kernel
theorem dX5_add_38 : decode cX5_add 38 = .ok (.goto 18, 3) := by decide +kernel
theorem dX5_add_41 : decode cX5_add 41 = .ok (.aload_n 0, 1) := by decide +kernel
theorem dX5_add_42 : decode cX5_add 42 = .ok (.getfield 13, 3) := by decide +kernel
theorem dX5_add_45 : decode cX5_add 45 = .ok (.sipush 201, 3) := by decide +kernel
theorem dX5_add_48 : decode cX5_add 48 = .ok (.iload_n 1, 1) := by decide +kernel
theorem dX5_add_49 : decode cX5_add 49 = .ok (.imul, 1) := by decide +kernel
theorem dX5_add_50 : decode cX5_add 50 = .ok (.iload 5, 2) := by decide +kernel
theorem dX5_add_52 : decode cX5_add 52 = .ok (.iadd, 1) := by decide +kernel
theorem dX5_add_53 : decode cX5_add 53 = .ok (.iaload, 1) := by decide +kernel
theorem dX5_add_54 : decode cX5_add 54 = .ok (.iload_n 3, 1) := by decide +kernel
theorem dX5_add_55 : decode cX5_add 55 = .ok (.iadd, 1) := by decide +kernel
theorem dX5_add_56 : decode cX5_add 56 = .ok (.invokevirtual 79, 3) := by decide +kernel
theorem dX5_add_59 : decode cX5_add 59 = .ok (.aload_n 0, 1) := by decide +kernel
theorem dX5_add_60 : decode cX5_add 60 = .ok (.iload_n 1, 1) := by decide +kernel
theorem dX5_add_61 : decode cX5_add 61 = .ok (.iconst (-1), 1) := by decide +kernel
theorem dX5_add_62 : decode cX5_add 62 = .ok (.invokevirtual 62, 3) := by decide +kernel
theorem dX5_add_65 : decode cX5_add 65 = .ok (.aload_n 0, 1) := by decide +kernel
theorem dX5_add_66 : decode cX5_add 66 = .ok (.aload_n 0, 1) := by decide +kernel
theorem dX5_add_67 : decode cX5_add 67 = .ok (.getfield 13, 3) := by decide +kernel
theorem dX5_add_70 : decode cX5_add 70 = .ok (.sipush 201, 3) := by decide +kernel
theorem dX5_add_73 : decode cX5_add 73 = .ok (.iload_n 1, 1) := by decide +kernel
theorem dX5_add_74 : decode cX5_add 74 = .ok (.imul, 1) := by decide +kernel
theorem dX5_add_75 : decode cX5_add 75 = .ok (.aload_n 0, 1) := by decide +kernel
theorem dX5_add_76 : decode cX5_add 76 = .ok (.iload_n 1, 1) := by decide +kernel
theorem dX5_add_77 : decode cX5_add 77 = .ok (.iload_n 2, 1) := by decide +kernel
theorem dX5_add_78 : decode cX5_add 78 = .ok (.invokevirtual 50, 3) := by decide +kernel
theorem dX5_add_81 : decode cX5_add 81 = .ok (.iadd, 1) := by decide +kernel
theorem dX5_add_82 : decode cX5_add 82 = .ok (.iaload, 1) := by decide +kernel
theorem dX5_add_83 : decode cX5_add 83 = .ok (.invokevirtual 65, 3) := by decide +kernel
theorem dX5_add_86 : decode cX5_add 86 = .ok (.ireturn, 1) := by decide +kernel
theorem dX5_halve_0 : decode cX5_halve 0 = .ok (.iload_n 1, 1) := by decide +kernel
theorem dX5_halve_1 : decode cX5_halve 1 = .ok (.invokestatic 68, 3) := by decide +kernel
theorem dX5_halve_4 : decode cX5_halve 4 = .ok (.ifCond .ne 9, 3) := by decide +kernel
theorem dX5_halve_7 : decode cX5_halve 7 = .ok (.aload_n 0, 1) := by decide +kernel
theorem dX5_halve_8 : decode cX5_halve 8 = .ok (.iconst 1, 1) := by decide +kernel
theorem dX5_halve_9 : decode cX5_halve 9 = .ok (.invokevirtual 72, 3) := by decide +kernel
theorem dX5_halve_12 : decode cX5_halve 12 = .ok (.ireturn, 1) := by decide +kernel
theorem dX5_halve_13 : decode cX5_halve 13 = .ok (.iload_n 1, 1) := by decide +kernel
theorem dX5_halve_14 : decode cX5_halve 14 = .ok (.invokestatic 86, 3) := by decide +kernel
theorem dX5_halve_17 : decode cX5_halve 17 = .ok (.ifCond .ne 9, 3) := by decide +kernel
theorem dX5_halve_20 : decode cX5_halve 20 = .ok (.aload_n 0, 1) := by decide +kernel
theorem dX5_halve_21 : decode cX5_halve 21 = .ok (.iconst 2, 1) := by decide +kernel
theorem dX5_halve_22 : decode cX5_halve 22 = .ok (.invokevirtual 72, 3) := by decide +kernel
theorem dX5_halve_25 : decode cX5_halve 25 = .ok (.ireturn, 1) := by decide +kernel
theorem dX5_halve_26 : decode cX5_halve 26 = .ok (.aload_n 0, 1) := by decide +kernel
theorem dX5_halve_27 : decode cX5_halve 27 = .ok (.iload_n 1, 1) := by decide +kernel
theorem dX5_halve_28 : decode cX5_halve 28 = .ok (.iconst (-1), 1) := by decide +kernel
theorem dX5_halve_29 : decode cX5_halve 29 = .ok (.invokevirtual 62, 3) := by decide +kernel
theorem dX5_halve_32 : decode cX5_halve 32 = .ok (.aload_n 0, 1) := by decide +kernel
theorem dX5_halve_33 : decode cX5_halve 33 = .ok (.iload_n 1, 1) := by decide +kernel
theorem dX5_halve_34 : decode cX5_halve 34 = .ok (.iload_n 2, 1) := by decide +kernel
theorem dX5_halve_35 : decode cX5_halve 35 = .ok (.invokevirtual 50, 3) := by decide +kernel
theorem dX5_halve_38 : decode cX5_halve 38 = .ok (.istore_n 3, 1) := by decide +kernel
theorem dX5_halve_39 : decode cX5_halve 39 = .ok (.iload_n 3, 1) := by decide +kernel
theorem dX5_halve_40 : decode cX5_halve 40 = .ok (.iconst (-1), 1) := by decide +kernel
theorem dX5_halve_41 : decode cX5_halve 41 = .ok (.if_icmp .ne 9, 3) := by decide +kernel
theorem dX5_halve_44 : decode cX5_halve 44 = .ok (.aload_n 0, 1) := by decide +kernel
theorem dX5_halve_45 : decode cX5_halve 45 = .ok (.iconst 0, 1) := by decide +kernel
theorem dX5_halve_46 : decode cX5_halve 46 = .ok (.invokevirtual 82, 3) := by decide +kernel
theorem dX5_halve_49 : decode cX5_halve 49 = .ok (.ireturn, 1) := by decide +kernel
theorem dX5_halve_50 : decode cX5_halve 50 = .ok (.aload_n 0, 1) := by decide +kernel
theorem dX5_halve_51 : decode cX5_halve 51 = .ok (.getfield 13, 3) := by decide +kernel
theorem dX5_halve_54 : decode cX5_halve 54 = .ok (.sipush 201, 3) := by decide +kernel
theorem dX5_halve_57 : decode cX5_halve 57 = .ok (.iload_n 1, 1) := by decide +kernel
theorem dX5_halve_58 : decode cX5_halve 58 = .ok (.imul, 1) := by decide +kernel
theorem dX5_halve_59 : decode cX5_halve 59 = .ok (.iload_n 3, 1) := by decide +kernel
theorem dX5_halve_60 : decode cX5_halve 60 = .ok (.iadd, 1) := by decide +kernel
theorem dX5_halve_61 : decode cX5_halve 61 = .ok (.iaload, 1) := by decide +kernel
theorem dX5_halve_62 : decode cX5_halve 62 = .ok (.iconst 2, 1) := by decide +kernel
theorem dX5_halve_63 : decode cX5_halve 63 = .ok (.idiv, 1) := by decide +kernel
theorem dX5_halve_64 : decode cX5_halve 64 = .ok (.istore 4, 2) := by decide +kernel
theorem dX5_halve_66 : decode cX5_halve 66 = .ok (.aload_n 0, 1) := by decide +kernel
theorem dX5_halve_67 : decode cX5_halve 67 = .ok (.getfield 13, 3) := by decide +kernel
theorem dX5_halve_70 : decode cX5_halve 70 = .ok (.sipush 201, 3) := by decide +kernel
theorem dX5_halve_73 : decode cX5_halve 73 = .ok (.iload_n 1, 1) := by decide +kernel
theorem dX5_halve_74 : decode cX5_halve 74 = .ok (.imul, 1) := by decide +kernel
theorem dX5_halve_75 : decode cX5_halve 75 = .ok (.iload_n 3, 1) := by decide +kernel
theorem dX5_halve_76 : decode cX5_halve 76 = .ok (.iadd, 1) := by decide +kernel
theorem dX5_halve_77 : decode cX5_halve 77 = .ok (.iload 4, 2) := by decide +kernel
theorem dX5_halve_79 : decode cX5_halve 79 = .ok (.iastore, 1) := by decide +kernel
theorem dX5_halve_80 : decode cX5_halve 80 = .ok (.iload 4, 2) := by decide +kernel
theorem dX5_halve_82 : decode cX5_halve 82 = .ok (.ifCond .ne 9, 3) := by decide +kernel
theorem dX5_halve_85 : decode cX5_halve 85 = .ok (.aload_n 0, 1) := by decide +kernel
theorem dX5_halve_86 : decode cX5_halve 86 = .ok (.iload_n 1, 1) := by decide +kernel
theorem dX5_halve_87 : decode cX5_halve 87 = .ok (.iload_n 3, 1) := by decide +kernel
theorem dX5_halve_88 : decode cX5_halve 88 = .ok (.invokevirtual 46, 3) := by decide +kernel
theorem dX5_halve_91 : decode cX5_halve 91 = .ok (.aload_n 0, 1) := by decide +kernel
theorem dX5_halve_92 : decode cX5_halve 92 = .ok (.iload 4, 2) := by decide +kernel
theorem dX5_halve_94 : decode cX5_halve 94 = .ok (.ifCond .eq 7, 3) := by decide +kernel
theorem dX5_halve_97 : decode cX5_halve 97 = .ok (.iconst 1, 1) := by decide +kernel
theorem dX5_halve_98 : decode cX5_halve 98 = .ok (.goto 4, 3) := by decide +kernel
theorem dX5_halve_101 : decode cX5_halve 101 = .ok (.iconst 0, 1) := by decide +kernel
theorem dX5_halve_102 : decode cX5_halve 102 = .ok (.invokevirtual 82, 3) := by decide +kernel
theorem dX5_halve_105 : decode cX5_halve 105 = .ok (.ireturn, 1) := by decide +kernel
theorem dX5_addToAll_0 : decode cX5_addToAll 0 = .ok (.iload_n 1, 1) := by decide +kernel
theorem dX5_addToAll_1 : decode cX5_addToAll 1 = .ok (.invokestatic 68, 3) := by decide +kernel
theorem dX5_addToAll_4 : decode cX5_addToAll 4 = .ok (.ifCond .ne 9, 3) := by decide +kernel
theorem dX5_addToAll_7 : decode cX5_addToAll 7 = .ok (.aload_n 0, 1) := by decide +kernel
theorem dX5_addToAll_8 : decode cX5_addToAll 8 = .ok (.iconst 1, 1) := by decide +kernel
theorem dX5_addToAll_9 : decode cX5_addToAll 9 = .ok (.invokevirtual 58, 3) := by decide +kernel
theorem dX5_addToAll_12 : decode cX5_addToAll 12 = .ok (.ireturn, 1) := by decide +kernel
theorem dX5_addToAll_13 : decode cX5_addToAll 13 = .ok (.iload_n 1, 1) := by decide +kernel
theorem dX5_addToAll_14 : decode cX5_addToAll 14 = .ok (.iconst 3, 1) := by decide +kernel
theorem dX5_addToAll_15 : decode cX5_addToAll 15 = .ok (.if_icmp .ne 9, 3) := by decide +kernel
theorem dX5_addToAll_18 : decode cX5_addToAll 18 = .ok (.aload_n 0, 1) := by decide +kernel
theorem dX5_addToAll_19 : decode cX5_addToAll 19 = .ok (.iconst 2, 1) := by decide +kernel
theorem dX5_addToAll_20 : decode cX5_addToAll 20 = .ok (.invokevirtual 58, 3) := by decide +kernel
theorem dX5_addToAll_23 : decode cX5_addToAll 23 = .ok (.ireturn, 1) := by decide +kernel
theorem dX5_addToAll_24 : decode cX5_addToAll 24 = .ok (.iconst 0, 1) := by decide +kernel
theorem dX5_addToAll_25 : decode cX5_addToAll 25 = .ok (.istore_n 3, 1) := by decide +kernel
theorem dX5_addToAll_26 : decode cX5_addToAll 26 = .ok (.iload_n 3, 1) := by decide +kernel
theorem dX5_addToAll_27 : decode cX5_addToAll 27 = .ok (.aload_n 0, 1) := by decide +kernel
theorem dX5_addToAll_28 : decode cX5_addToAll 28 = .ok (.getfield 16, 3) := by decide +kernel
theorem dX5_addToAll_31 : decode cX5_addToAll 31 = .ok (.iload_n 1, 1) := by decide +kernel
theorem dX5_addToAll_32 : decode cX5_addToAll 32 = .ok (.iaload, 1) := by decide +kernel
theorem dX5_addToAll_33 : decode cX5_addToAll 33 = .ok (.if_icmp .ge 25, 3) := by decide +kernel
theorem dX5_addToAll_36 : decode cX5_addToAll 36 = .ok (.aload_n 0, 1) := by decide +kernel
theorem dX5_addToAll_37 : decode cX5_addToAll 37 = .ok (.getfield 13, 3) := by decide +kernel
theorem dX5_addToAll_40 : decode cX5_addToAll 40 = .ok (.sipush 201, 3) := by decide +kernel
theorem dX5_addToAll_43 : decode cX5_addToAll 43 = .ok (.iload_n 1, 1) := by decide +kernel
theorem dX5_addToAll_44 : decode cX5_addToAll 44 = .ok (.imul, 1) := by decide +kernel
theorem dX5_addToAll_45 : decode cX5_addToAll 45 = .ok (.iload_n 3, 1) := by decide +kernel
theorem dX5_addToAll_46 : decode cX5_addToAll 46 = .ok (.iadd, 1) := by decide +kernel
theorem dX5_addToAll_47 : decode cX5_addToAll 47 = .ok (.dup2, 1) := by decide +kernel
theorem dX5_addToAll_48 : decode cX5_addToAll 48 = .ok (.iaload, 1) := by decide +kernel
theorem dX5_addToAll_49 : decode cX5_addToAll 49 = .ok (.iload_n 2, 1) := by decide +kernel
theorem dX5_addToAll_50 : decode cX5_addToAll 50 = .ok (.iadd, 1) := by decide +kernel
theorem dX5_addToAll_51 : decode cX5_addToAll 51 = .ok (.iastore, 1) := by decide +kernel
theorem dX5_addToAll_52 : decode cX5_addToAll 52 = .ok (.iinc 3 1, 3) := by decide +kernel
theorem dX5_addToAll_55 : decode cX5_addToAll 55 = .ok (.goto (-29), 3) := by decide +kernel
theorem dX5_addToAll_58 : decode cX5_addToAll 58 = .ok (.aload_n 0, 1) := by decide +kernel
theorem dX5_addToAll_59 : decode cX5_addToAll 59 = .ok (.iload_n 1, 1) := by decide +kernel
theorem dX5_addToAll_60 : decode cX5_addToAll 60 = .ok (.iconst (-1), 1) := by decide +kernel
theorem dX5_addToAll_61 : decode cX5_addToAll 61 = .ok (.invokevirtual 62, 3) := by decide +kernel
theorem dX5_addToAll_64 : decode cX5_addToAll 64 = .ok (.aload_n 0, 1) := by decide +kernel
theorem dX5_addToAll_65 : decode cX5_addToAll 65 = .ok (.aload_n 0, 1) := by decide +kernel
theorem dX5_addToAll_66 : decode cX5_addToAll 66 = .ok (.getfield 16, 3) := by decide +kernel
theorem dX5_addToAll_69 : decode cX5_addToAll 69 = .ok (.iload_n 1, 1) := by decide +kernel
theorem dX5_addToAll_70 : decode cX5_addToAll 70 = .ok (.iaload, 1) := by decide +kernel
theorem dX5_addToAll_71 : decode cX5_addToAll 71 = .ok (.invokevirtual 65, 3) := by decide +kernel
theorem dX5_addToAll_74 : decode cX5_addToAll 74 = .ok (.ireturn, 1) := by decide +kernel
theorem dX5_replace_0 : decode cX5_replace 0 = .ok (.iload_n 1, 1) := by decide +kernel
theorem dX5_replace_1 : decode cX5_replace 1 = .ok (.invokestatic 68, 3) := by decide +kernel
theorem dX5_replace_4 : decode cX5_replace 4 = .ok (.ifCond .ne 9, 3) := by decide +kernel
theorem dX5_replace_7 : decode cX5_replace 7 = .ok (.aload_n 0, 1) := by decide +kernel
theorem dX5_replace_8 : decode cX5_replace 8 = .ok (.iconst 1, 1) := by decide +kernel
theorem dX5_replace_9 : decode cX5_replace 9 = .ok (.invokevirtual 72, 3) := by decide +kernel
theorem dX5_replace_12 : decode cX5_replace 12 = .ok (.ireturn, 1) := by decide +kernel
theorem dX5_replace_13 : decode cX5_replace 13 = .ok (.iload_n 1, 1) := by decide +kernel
theorem dX5_replace_14 : decode cX5_replace 14 = .ok (.iconst 3, 1) := by decide +kernel
theorem dX5_replace_15 : decode cX5_replace 15 = .ok (.if_icmp .ne 9, 3) := by decide +kernel
theorem dX5_replace_18 : decode cX5_replace 18 = .ok (.aload_n 0, 1) := by decide +kernel
theorem dX5_replace_19 : decode cX5_replace 19 = .ok (.iconst 2, 1) := by decide +kernel
theorem dX5_replace_20 : decode cX5_replace 20 = .ok (.invokevirtual 72, 3) := by decide +kernel
theorem dX5_replace_23 : decode cX5_replace 23 = .ok (.ireturn, 1) := by decide +kernel
theorem dX5_replace_24 : decode cX5_replace 24 = .ok (.aload_n 0, 1) := by decide +kernel
theorem dX5_replace_25 : decode cX5_replace 25 = .ok (.iload_n 1, 1) := by decide +kernel
theorem dX5_replace_26 : decode cX5_replace 26 = .ok (.iconst (-1), 1) := by decide +kernel
theorem dX5_replace_27 : decode cX5_replace 27 = .ok (.invokevirtual 62, 3) := by decide +kernel
theorem dX5_replace_30 : decode cX5_replace 30 = .ok (.aload_n 0, 1) := by decide +kernel
theorem dX5_replace_31 : decode cX5_replace 31 = .ok (.iload_n 1, 1) := by decide +kernel
theorem dX5_replace_32 : decode cX5_replace 32 = .ok (.iload_n 2, 1) := by decide +kernel
theorem dX5_replace_33 : decode cX5_replace 33 = .ok (.invokevirtual 50, 3) := by decide +kernel
theorem dX5_replace_36 : decode cX5_replace 36 = .ok (.istore 4, 2) := by decide +kernel
theorem dX5_replace_38 : decode cX5_replace 38 = .ok (.iload 4, 2) := by decide +kernel
theorem dX5_replace_40 : decode cX5_replace 40 = .ok (.iconst (-1), 1) := by decide +kernel
theorem dX5_replace_41 : decode cX5_replace 41 = .ok (.if_icmp .eq 17, 3) := by decide +kernel
theorem dX5_replace_44 : decode cX5_replace 44 = .ok (.aload_n 0, 1) := by decide +kernel
theorem dX5_replace_45 : decode cX5_replace 45 = .ok (.getfield 13, 3) := by decide +kernel
theorem dX5_replace_48 : decode cX5_replace 48 = .ok (.sipush 201, 3) := by decide +kernel
theorem dX5_replace_51 : decode cX5_replace 51 = .ok (.iload_n 1, 1) := by decide +kernel
theorem dX5_replace_52 : decode cX5_replace 52 = .ok (.imul, 1) := by decide +kernel
theorem dX5_replace_53 : decode cX5_replace 53 = .ok (.iload 4, 2) := by decide +kernel
theorem dX5_replace_55 : decode cX5_replace 55 = .ok (.iadd, 1) := by decide +kernel
theorem dX5_replace_56 : decode cX5_replace 56 = .ok (.iload_n 3, 1) := by decide +kernel
theorem dX5_replace_57 : decode cX5_replace 57 = .ok (.iastore, 1) := by decide +kernel
theorem dX5_replace_58 : decode cX5_replace 58 = .ok (.aload_n 0, 1) := by decide +kernel
theorem dX5_replace_59 : decode cX5_replace 59 = .ok (.iload 4, 2) := by decide +kernel
theorem dX5_replace_61 : decode cX5_replace 61 = .ok (.iconst (-1), 1) := by decide +kernel
theorem dX5_replace_62 : decode cX5_replace 62 = .ok (.if_icmp .eq 7, 3) := by decide +kernel
theorem dX5_replace_65 : decode cX5_replace 65 = .ok (.iconst 1, 1) := by decide +kernel
theorem dX5_replace_66 : decode cX5_replace 66 = .ok (.goto 4, 3) := by decide +kernel
theorem dX5_replace_69 : decode cX5_replace 69 = .ok (.iconst 0, 1) := by decide +kernel
theorem dX5_replace_70 : decode cX5_replace 70 = .ok (.invokevirtual 82, 3) := by decide +kernel
theorem dX5_replace_73 : decode cX5_replace 73 = .ok (.ireturn, 1) := by decide +kernel
theorem dX5_remove_0 : decode cX5_remove 0 = .ok (.iload_n 1, 1) := by decide +kernel
theorem dX5_remove_1 : decode cX5_remove 1 = .ok (.invokestatic 68, 3) := by decide +kernel
theorem dX5_remove_4 : decode cX5_remove 4 = .ok (.ifCond .ne 9, 3) := by decide +kernel
theorem dX5_remove_7 : decode cX5_remove 7 = .ok (.aload_n 0, 1) := by decide +kernel
theorem dX5_remove_8 : decode cX5_remove 8 = .ok (.iconst 1, 1) := by decide +kernel
theorem dX5_remove_9 : decode cX5_remove 9 = .ok (.invokevirtual 58, 3) := by decide +kernel
theorem dX5_remove_12 : decode cX5_remove 12 = .ok (.ireturn, 1) := by decide +kernel
theorem dX5_remove_13 : decode cX5_remove 13 = .ok (.iload_n 1, 1) := by decide +kernel
theorem dX5_remove_14 : decode cX5_remove 14 = .ok (.iconst 3, 1) := by decide +kernel
theorem dX5_remove_15 : decode cX5_remove 15 = .ok (.if_icmp .ne 9, 3) := by decide +kernel
theorem dX5_remove_18 : decode cX5_remove 18 = .ok (.aload_n 0, 1) := by decide +kernel
theorem dX5_remove_19 : decode cX5_remove 19 = .ok (.iconst 2, 1) := by decide +kernel
theorem dX5_remove_20 : decode cX5_remove 20 = .ok (.invokevirtual 58, 3) := by decide +kernel
theorem dX5_remove_23 : decode cX5_remove 23 = .ok (.ireturn, 1) := by decide +kernel
theorem dX5_remove_24 : decode cX5_remove 24 = .ok (.aload_n 0, 1) := by decide +kernel
theorem dX5_remove_25 : decode cX5_remove 25 = .ok (.iload_n 1, 1) := by decide +kernel
theorem dX5_remove_26 : decode cX5_remove 26 = .ok (.iload_n 2, 1) := by decide +kernel
theorem dX5_remove_27 : decode cX5_remove 27 = .ok (.invokevirtual 50, 3) := by decide +kernel
theorem dX5_remove_30 : decode cX5_remove 30 = .ok (.istore_n 3, 1) := by decide +kernel
theorem dX5_remove_31 : decode cX5_remove 31 = .ok (.iload_n 3, 1) := by decide +kernel
theorem dX5_remove_32 : decode cX5_remove 32 = .ok (.iconst (-1), 1) := by decide +kernel
theorem dX5_remove_33 : decode cX5_remove 33 = .ok (.if_icmp .ne 9, 3) := by decide +kernel
theorem dX5_remove_36 : decode cX5_remove 36 = .ok (.aload_n 0, 1) := by decide +kernel
theorem dX5_remove_37 : decode cX5_remove 37 = .ok (.iconst 3, 1) := by decide +kernel
theorem dX5_remove_38 : decode cX5_remove 38 = .ok (.invokevirtual 58, 3) := by decide +kernel
theorem dX5_remove_41 : decode cX5_remove 41 = .ok (.ireturn, 1) := by decide +kernel
theorem dX5_remove_42 : decode cX5_remove 42 = .ok (.aload_n 0, 1) := by decide +kernel
theorem dX5_remove_43 : decode cX5_remove 43 = .ok (.getfield 13, 3) := by decide +kernel
theorem dX5_remove_46 : decode cX5_remove 46 = .ok (.sipush 201, 3) := by decide +kernel
theorem dX5_remove_49 : decode cX5_remove 49 = .ok (.iload_n 1, 1) := by decide +kernel
theorem dX5_remove_50 : decode cX5_remove 50 = .ok (.imul, 1) := by decide +kernel
theorem dX5_remove_51 : decode cX5_remove 51 = .ok (.iload_n 3, 1) := by decide +kernel
theorem dX5_remove_52 : decode cX5_remove 52 = .ok (.iadd, 1) := by decide +kernel
theorem dX5_remove_53 : decode cX5_remove 53 = .ok (.iaload, 1) := by decide +kernel
theorem dX5_remove_54 : decode cX5_remove 54 = .ok (.istore 4, 2) := by decide +kernel
theorem dX5_remove_56 : decode cX5_remove 56 = .ok (.aload_n 0, 1) := by decide +kernel
theorem dX5_remove_57 : decode cX5_remove 57 = .ok (.iload_n 1, 1) := by decide +kernel
theorem dX5_remove_58 : decode cX5_remove 58 = .ok (.iload_n 3, 1) := by decide +kernel
theorem dX5_remove_59 : decode cX5_remove 59 = .ok (.invokevirtual 46, 3) := by decide +kernel
theorem dX5_remove_62 : decode cX5_remove 62 = .ok (.aload_n 0, 1) := by decide +kernel
theorem dX5_remove_63 : decode cX5_remove 63 = .ok (.iload_n 1, 1) := by decide +kernel
theorem dX5_remove_64 : decode cX5_remove 64 = .ok (.iconst (-1), 1) := by decide +kernel
theorem dX5_remove_65 : decode cX5_remove 65 = .ok (.invokevirtual 62, 3) := by decide +kernel
theorem dX5_remove_68 : decode cX5_remove 68 = .ok (.aload_n 0, 1) := by decide +kernel
theorem dX5_remove_69 : decode cX5_remove 69 = .ok (.iload 4, 2) := by decide +kernel
theorem dX5_remove_71 : decode cX5_remove 71 = .ok (.invokevirtual 65, 3) := by decide +kernel
theorem dX5_remove_74 : decode cX5_remove 74 = .ok (.ireturn, 1) := by decide +kernel
theorem dX5_removePair_0 : decode cX5_removePair 0 = .ok (.iload_n 1, 1) := by decide +kernel
theorem dX5_removePair_1 : decode cX5_removePair 1 = .ok (.invokestatic 68, 3) := by decide +kernel
theorem dX5_removePair_4 : decode cX5_removePair 4 = .ok (.ifCond .ne 9, 3) := by decide +kernel
theorem dX5_removePair_7 : decode cX5_removePair 7 = .ok (.aload_n 0, 1) := by decide +kernel
theorem dX5_removePair_8 : decode cX5_removePair 8 = .ok (.iconst 1, 1) := by decide +kernel
theorem dX5_removePair_9 : decode cX5_removePair 9 = .ok (.invokevirtual 72, 3) := by decide +kernel
theorem dX5_removePair_12 : decode cX5_removePair 12 = .ok (.ireturn, 1) := by decide +kernel
theorem dX5_removePair_13 : decode cX5_removePair 13 = .ok (.iload_n 1, 1) := by decide +kernel
theorem dX5_removePair_14 : decode cX5_removePair 14 = .ok (.iconst 3, 1) := by decide +kernel
theorem dX5_removePair_15 : decode cX5_removePair 15 = .ok (.if_icmp .ne 9, 3) := by decide +kernel
theorem dX5_removePair_18 : decode cX5_removePair 18 = .ok (.aload_n 0, 1) := by decide +kernel
theorem dX5_removePair_19 : decode cX5_removePair 19 = .ok (.iconst 2, 1) := by decide +kernel
theorem dX5_removePair_20 : decode cX5_removePair 20 = .ok (.invokevirtual 72, 3) := by decide +kernel
theorem dX5_removePair_23 : decode cX5_removePair 23 = .ok (.ireturn, 1) := by decide +kernel
theorem dX5_removePair_24 : decode cX5_removePair 24 = .ok (.aload_n 0, 1) := by decide +kernel
theorem dX5_removePair_25 : decode cX5_removePair 25 = .ok (.iload_n 1, 1) := by decide +kernel
theorem dX5_removePair_26 : decode cX5_removePair 26 = .ok (.iconst (-1), 1) := by decide +kernel
theorem dX5_removePair_27 : decode cX5_removePair 27 = .ok (.invokevirtual 62, 3) := by decide +kernel
theorem dX5_removePair_30 : decode cX5_removePair 30 = .ok (.aload_n 0, 1) := by decide +kernel
theorem dX5_removePair_31 : decode cX5_removePair 31 = .ok (.iload_n 1, 1) := by decide +kernel
theorem dX5_removePair_32 : decode cX5_removePair 32 = .ok (.iload_n 2, 1) := by decide +kernel
theorem dX5_removePair_33 : decode cX5_removePair 33 = .ok (.invokevirtual 50, 3) := by decide +kernel
theorem dX5_removePair_36 : decode cX5_removePair 36 = .ok (.istore 4, 2) := by decide +kernel
theorem dX5_removePair_38 : decode cX5_removePair 38 = .ok (.iload 4, 2) := by decide +kernel
theorem dX5_removePair_40 : decode cX5_removePair 40 = .ok (.iconst (-1), 1) := by decide +kernel
theorem dX5_removePair_41 : decode cX5_removePair 41 = .ok (.if_icmp .eq 20, 3) := by decide +kernel
theorem dX5_removePair_44 : decode cX5_removePair 44 = .ok (.aload_n 0, 1) := by decide +kernel
theorem dX5_removePair_45 : decode cX5_removePair 45 = .ok (.getfield 13, 3) := by decide +kernel
theorem dX5_removePair_48 : decode cX5_removePair 48 = .ok (.sipush 201, 3) := by decide +kernel
theorem dX5_removePair_51 : decode cX5_removePair 51 = .ok (.iload_n 1, 1) := by decide +kernel
theorem dX5_removePair_52 : decode cX5_removePair 52 = .ok (.imul, 1) := by decide +kernel
theorem dX5_removePair_53 : decode cX5_removePair 53 = .ok (.iload 4, 2) := by decide +kernel
theorem dX5_removePair_55 : decode cX5_removePair 55 = .ok (.iadd, 1) := by decide +kernel
theorem dX5_removePair_56 : decode cX5_removePair 56 = .ok (.iaload, 1) := by decide +kernel
theorem dX5_removePair_57 : decode cX5_removePair 57 = .ok (.iload_n 3, 1) := by decide +kernel
theorem dX5_removePair_58 : decode cX5_removePair 58 = .ok (.if_icmp .eq 9, 3) := by decide +kernel
theorem dX5_removePair_61 : decode cX5_removePair 61 = .ok (.aload_n 0, 1) := by decide +kernel
theorem dX5_removePair_62 : decode cX5_removePair 62 = .ok (.iconst 0, 1) := by decide +kernel
theorem dX5_removePair_63 : decode cX5_removePair 63 = .ok (.invokevirtual 82, 3) := by decide +kernel
theorem dX5_removePair_66 : decode cX5_removePair 66 = .ok (.ireturn, 1) := by decide +kernel
theorem dX5_removePair_67 : decode cX5_removePair 67 = .ok (.aload_n 0, 1) := by decide +kernel
theorem dX5_removePair_68 : decode cX5_removePair 68 = .ok (.iload_n 1, 1) := by decide +kernel
theorem dX5_removePair_69 : decode cX5_removePair 69 = .ok (.iload 4, 2) := by decide +kernel
theorem dX5_removePair_71 : decode cX5_removePair 71 = .ok (.invokevirtual 46, 3) := by decide +kernel
theorem dX5_removePair_74 : decode cX5_removePair 74 = .ok (.aload_n 0, 1) := by decide +kernel
theorem dX5_removePair_75 : decode cX5_removePair 75 = .ok (.iconst 1, 1) := by decide +kernel
theorem dX5_removePair_76 : decode cX5_removePair 76 = .ok (.invokevirtual 82, 3) := by decide +kernel
theorem dX5_removePair_79 : decode cX5_removePair 79 = .ok (.ireturn, 1) := by decide +kernel
theorem dX5_fill_0 : decode cX5_fill 0 = .ok (.iload_n 1, 1) := by decide +kernel
theorem dX5_fill_1 : decode cX5_fill 1 = .ok (.invokestatic 68, 3) := by decide +kernel
theorem dX5_fill_4 : decode cX5_fill 4 = .ok (.ifCond .ne 9, 3) := by decide +kernel
theorem dX5_fill_7 : decode cX5_fill 7 = .ok (.aload_n 0, 1) := by decide +kernel
theorem dX5_fill_8 : decode cX5_fill 8 = .ok (.iconst 1, 1) := by decide +kernel
theorem dX5_fill_9 : decode cX5_fill 9 = .ok (.invokevirtual 58, 3) := by decide +kernel
theorem dX5_fill_12 : decode cX5_fill 12 = .ok (.ireturn, 1) := by decide +kernel
theorem dX5_fill_13 : decode cX5_fill 13 = .ok (.iload_n 1, 1) := by decide +kernel
theorem dX5_fill_14 : decode cX5_fill 14 = .ok (.iconst 3, 1) := by decide +kernel
theorem dX5_fill_15 : decode cX5_fill 15 = .ok (.if_icmp .eq 14, 3) := by decide +kernel
theorem dX5_fill_18 : decode cX5_fill 18 = .ok (.iload 4, 2) := by decide +kernel
theorem dX5_fill_20 : decode cX5_fill 20 = .ok (.iconst 0, 1) := by decide +kernel
theorem dX5_fill_21 : decode cX5_fill 21 = .ok (.bipush 60, 2) := by decide +kernel
theorem dX5_fill_23 : decode cX5_fill 23 = .ok (.invokestatic 42, 3) := by decide +kernel
theorem dX5_fill_26 : decode cX5_fill 26 = .ok (.ifCond .ne 9, 3) := by decide +kernel
theorem dX5_fill_29 : decode cX5_fill 29 = .ok (.aload_n 0, 1) := by decide +kernel
theorem dX5_fill_30 : decode cX5_fill 30 = .ok (.iconst 2, 1) := by decide +kernel
theorem dX5_fill_31 : decode cX5_fill 31 = .ok (.invokevirtual 58, 3) := by decide +kernel
theorem dX5_fill_34 : decode cX5_fill 34 = .ok (.ireturn, 1) := by decide +kernel
theorem dX5_fill_35 : decode cX5_fill 35 = .ok (.iload_n 1, 1) := by decide +kernel
theorem dX5_fill_36 : decode cX5_fill 36 = .ok (.invokestatic 86, 3) := by decide +kernel
theorem dX5_fill_39 : decode cX5_fill 39 = .ok (.ifCond .eq 21, 3) := by decide +kernel
theorem dX5_fill_42 : decode cX5_fill 42 = .ok (.aload_n 0, 1) := by decide +kernel
theorem dX5_fill_43 : decode cX5_fill 43 = .ok (.getfield 16, 3) := by decide +kernel
theorem dX5_fill_46 : decode cX5_fill 46 = .ok (.iload_n 1, 1) := by decide +kernel
theorem dX5_fill_47 : decode cX5_fill 47 = .ok (.iaload, 1) := by decide +kernel
theorem dX5_fill_48 : decode cX5_fill 48 = .ok (.sipush 140, 3) := by decide +kernel
theorem dX5_fill_51 : decode cX5_fill 51 = .ok (.if_icmp .le 9, 3) := by decide +kernel
theorem dX5_fill_54 : decode cX5_fill 54 = .ok (.aload_n 0, 1) := by decide +kernel
theorem dX5_fill_55 : decode cX5_fill 55 = .ok (.iconst 3, 1) := by decide +kernel
theorem dX5_fill_56 : decode cX5_fill 56 = .ok (.invokevirtual 58, 3) := by decide +kernel
theorem dX5_fill_59 : decode cX5_fill 59 = .ok (.ireturn, 1) := by decide +kernel
theorem dX5_fill_60 : decode cX5_fill 60 = .ok (.iload_n 2, 1) := by decide +kernel
theorem dX5_fill_61 : decode cX5_fill 61 = .ok (.istore 5, 2) := by decide +kernel
theorem dX5_fill_63 : decode cX5_fill 63 = .ok (.iconst 0, 1) := by decide +kernel
theorem dX5_fill_64 : decode cX5_fill 64 = .ok (.istore 6, 2) := by decide +kernel
theorem dX5_fill_66 : decode cX5_fill 66 = .ok (.iload 6, 2) := by decide +kernel
theorem dX5_fill_68 : decode cX5_fill 68 = .ok (.iload 4, 2) := by decide +kernel
theorem dX5_fill_70 : decode cX5_fill 70 = .ok (.if_icmp .ge 23, 3) := by decide +kernel
theorem dX5_fill_73 : decode cX5_fill 73 = .ok (.aload_n 0, 1) := by decide +kernel
theorem dX5_fill_74 : decode cX5_fill 74 = .ok (.iload_n 1, 1) := by decide +kernel
theorem dX5_fill_75 : decode cX5_fill 75 = .ok (.iload 5, 2) := by decide +kernel
theorem dX5_fill_77 : decode cX5_fill 77 = .ok (.iconst 0, 1) := by decide +kernel
theorem dX5_fill_78 : decode cX5_fill 78 = .ok (.invokevirtual 79, 3) := by decide +kernel
theorem dX5_fill_81 : decode cX5_fill 81 = .ok (.iload 5, 2) := by decide +kernel
theorem dX5_fill_83 : decode cX5_fill 83 = .ok (.iload_n 3, 1) := by decide +kernel
theorem dX5_fill_84 : decode cX5_fill 84 = .ok (.iadd, 1) := by decide +kernel
theorem dX5_fill_85 : decode cX5_fill 85 = .ok (.istore 5, 2) := by decide +kernel
theorem dX5_fill_87 : decode cX5_fill 87 = .ok (.iinc 6 1, 3) := by decide +kernel
theorem dX5_fill_90 : decode cX5_fill 90 = .ok (.goto (-24), 3) := by decide +kernel
theorem dX5_fill_93 : decode cX5_fill 93 = .ok (.aload_n 0, 1) := by decide +kernel
theorem dX5_fill_94 : decode cX5_fill 94 = .ok (.iload_n 1, 1) := by decide +kernel
theorem dX5_fill_95 : decode cX5_fill 95 = .ok (.iconst (-1), 1) := by decide +kernel
theorem dX5_fill_96 : decode cX5_fill 96 = .ok (.invokevirtual 62, 3) := by decide +kernel
theorem dX5_fill_99 : decode cX5_fill 99 = .ok (.aload_n 0, 1) := by decide +kernel
theorem dX5_fill_100 : decode cX5_fill 100 = .ok (.aload_n 0, 1) := by decide +kernel
theorem dX5_fill_101 : decode cX5_fill 101 = .ok (.getfield 16, 3) := by decide +kernel
theorem dX5_fill_104 : decode cX5_fill 104 = .ok (.iload_n 1, 1) := by decide +kernel
theorem dX5_fill_105 : decode cX5_fill 105 = .ok (.iaload, 1) := by decide +kernel
theorem dX5_fill_106 : decode cX5_fill 106 = .ok (.invokevirtual 65, 3) := by decide +kernel
theorem dX5_fill_109 : decode cX5_fill 109 = .ok (.ireturn, 1) := by decide +kernel
theorem dX5_pour_0 : decode cX5_pour 0 = .ok (.iload_n 1, 1) := by decide +kernel
theorem dX5_pour_1 : decode cX5_pour 1 = .ok (.invokestatic 68, 3) := by decide +kernel
theorem dX5_pour_4 : decode cX5_pour 4 = .ok (.ifCond .eq 10, 3) := by decide +kernel
theorem dX5_pour_7 : decode cX5_pour 7 = .ok (.iload_n 2, 1) := by decide +kernel
theorem dX5_pour_8 : decode cX5_pour 8 = .ok (.invokestatic 68, 3) := by decide +kernel
theorem dX5_pour_11 : decode cX5_pour 11 = .ok (.ifCond .ne 9, 3) := by decide +kernel
theorem dX5_pour_14 : decode cX5_pour 14 = .ok (.aload_n 0, 1) := by decide +kernel
theorem dX5_pour_15 : decode cX5_pour 15 = .ok (.iconst 1, 1) := by decide +kernel
theorem dX5_pour_16 : decode cX5_pour 16 = .ok (.invokevirtual 58, 3) := by decide +kernel
theorem dX5_pour_19 : decode cX5_pour 19 = .ok (.ireturn, 1) := by decide +kernel
theorem dX5_pour_20 : decode cX5_pour 20 = .ok (.iload_n 2, 1) := by decide +kernel
theorem dX5_pour_21 : decode cX5_pour 21 = .ok (.iconst 3, 1) := by decide +kernel
theorem dX5_pour_22 : decode cX5_pour 22 = .ok (.if_icmp .eq 8, 3) := by decide +kernel
theorem dX5_pour_25 : decode cX5_pour 25 = .ok (.iload_n 1, 1) := by decide +kernel
theorem dX5_pour_26 : decode cX5_pour 26 = .ok (.iload_n 2, 1) := by decide +kernel
theorem dX5_pour_27 : decode cX5_pour 27 = .ok (.if_icmp .ne 9, 3) := by decide +kernel
theorem dX5_pour_30 : decode cX5_pour 30 = .ok (.aload_n 0, 1) := by decide +kernel
theorem dX5_pour_31 : decode cX5_pour 31 = .ok (.iconst 2, 1) := by decide +kernel
theorem dX5_pour_32 : decode cX5_pour 32 = .ok (.invokevirtual 58, 3) := by decide +kernel
theorem dX5_pour_35 : decode cX5_pour 35 = .ok (.ireturn, 1) := by decide +kernel
theorem dX5_pour_36 : decode cX5_pour 36 = .ok (.iconst 0, 1) := by decide +kernel
theorem dX5_pour_37 : decode cX5_pour 37 = .ok (.istore_n 3, 1) := by decide +kernel
theorem dX5_pour_38 : decode cX5_pour 38 = .ok (.iconst 0, 1) := by decide +kernel
theorem dX5_pour_39 : decode cX5_pour 39 = .ok (.istore 4, 2) := by decide +kernel
theorem dX5_pour_41 : decode cX5_pour 41 = .ok (.iload 4, 2) := by decide +kernel
theorem dX5_pour_43 : decode cX5_pour 43 = .ok (.aload_n 0, 1) := by decide +kernel
theorem dX5_pour_44 : decode cX5_pour 44 = .ok (.getfield 16, 3) := by decide +kernel
theorem dX5_pour_47 : decode cX5_pour 47 = .ok (.iload_n 1, 1) := by decide +kernel
theorem dX5_pour_48 : decode cX5_pour 48 = .ok (.iaload, 1) := by decide +kernel
theorem dX5_pour_49 : decode cX5_pour 49 = .ok (.if_icmp .ge 39, 3) := by decide +kernel
theorem dX5_pour_52 : decode cX5_pour 52 = .ok (.iload_n 3, 1) := by decide +kernel
theorem dX5_pour_53 : decode cX5_pour 53 = .ok (.aload_n 0, 1) := by decide +kernel
theorem dX5_pour_54 : decode cX5_pour 54 = .ok (.iload_n 2, 1) := by decide +kernel
theorem dX5_pour_55 : decode cX5_pour 55 = .ok (.aload_n 0, 1) := by decide +kernel
theorem dX5_pour_56 : decode cX5_pour 56 = .ok (.getfield 7, 3) := by decide +kernel
theorem dX5_pour_59 : decode cX5_pour 59 = .ok (.sipush 201, 3) := by decide +kernel
theorem dX5_pour_62 : decode cX5_pour 62 = .ok (.iload_n 1, 1) := by decide +kernel
theorem dX5_pour_63 : decode cX5_pour 63 = .ok (.imul, 1) := by decide +kernel
theorem dX5_pour_64 : decode cX5_pour 64 = .ok (.iload 4, 2) := by decide +kernel
theorem dX5_pour_66 : decode cX5_pour 66 = .ok (.iadd, 1) := by decide +kernel
theorem dX5_pour_67 : decode cX5_pour 67 = .ok (.iaload, 1) := by decide +kernel
theorem dX5_pour_68 : decode cX5_pour 68 = .ok (.invokevirtual 50, 3) := by decide +kernel
theorem dX5_pour_71 : decode cX5_pour 71 = .ok (.iconst (-1), 1) := by decide +kernel
theorem dX5_pour_72 : decode cX5_pour 72 = .ok (.if_icmp .ne 7, 3) := by decide +kernel
theorem dX5_pour_75 : decode cX5_pour 75 = .ok (.iconst 1, 1) := by decide +kernel
theorem dX5_pour_76 : decode cX5_pour 76 = .ok (.goto 4, 3) := by decide +kernel
theorem dX5_pour_79 : decode cX5_pour 79 = .ok (.iconst 0, 1) := by decide +kernel
theorem dX5_pour_80 : decode cX5_pour 80 = .ok (.iadd, 1) := by decide +kernel
theorem dX5_pour_81 : decode cX5_pour 81 = .ok (.istore_n 3, 1) := by decide +kernel
theorem dX5_pour_82 : decode cX5_pour 82 = .ok (.iinc 4 1, 3) := by decide +kernel
