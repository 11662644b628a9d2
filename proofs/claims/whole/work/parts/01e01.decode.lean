theorem dX5_pour_85 : decode cX5_pour 85 = .ok (.goto (-44), 3) := by decide +kernel
theorem dX5_pour_88 : decode cX5_pour 88 = .ok (.iload_n 2, 1) := by decide +kernel
theorem dX5_pour_89 : decode cX5_pour 89 = .ok (.invokestatic 86, 3) := by decide +kernel
theorem dX5_pour_92 : decode cX5_pour 92 = .ok (.ifCond .eq 23, 3) := by decide +kernel
theorem dX5_pour_95 : decode cX5_pour 95 = .ok (.aload_n 0, 1) := by decide +kernel
theorem dX5_pour_96 : decode cX5_pour 96 = .ok (.getfield 16, 3) := by decide +kernel
theorem dX5_pour_99 : decode cX5_pour 99 = .ok (.iload_n 2, 1) := by decide +kernel
theorem dX5_pour_100 : decode cX5_pour 100 = .ok (.iaload, 1) := by decide +kernel
theorem dX5_pour_101 : decode cX5_pour 101 = .ok (.iload_n 3, 1) := by decide +kernel
theorem dX5_pour_102 : decode cX5_pour 102 = .ok (.iadd, 1) := by decide +kernel
theorem dX5_pour_103 : decode cX5_pour 103 = .ok (.sipush 200, 3) := by decide +kernel
theorem dX5_pour_106 : decode cX5_pour 106 = .ok (.if_icmp .le 9, 3) := by decide +kernel
theorem dX5_pour_109 : decode cX5_pour 109 = .ok (.aload_n 0, 1) := by decide +kernel
theorem dX5_pour_110 : decode cX5_pour 110 = .ok (.iconst 3, 1) := by decide +kernel
theorem dX5_pour_111 : decode cX5_pour 111 = .ok (.invokevirtual 58, 3) := by decide +kernel
theorem dX5_pour_114 : decode cX5_pour 114 = .ok (.ireturn, 1) := by decide +kernel
theorem dX5_pour_115 : decode cX5_pour 115 = .ok (.iconst 0, 1) := by decide +kernel
theorem dX5_pour_116 : decode cX5_pour 116 = .ok (.istore 4, 2) := by decide +kernel
theorem dX5_pour_118 : decode cX5_pour 118 = .ok (.iload 4, 2) := by decide +kernel
theorem dX5_pour_120 : decode cX5_pour 120 = .ok (.aload_n 0, 1) := by decide +kernel
theorem dX5_pour_121 : decode cX5_pour 121 = .ok (.getfield 16, 3) := by decide +kernel
theorem dX5_pour_124 : decode cX5_pour 124 = .ok (.iload_n 1, 1) := by decide +kernel
theorem dX5_pour_125 : decode cX5_pour 125 = .ok (.iaload, 1) := by decide +kernel
theorem dX5_pour_126 : decode cX5_pour 126 = .ok (.if_icmp .ge 40, 3) := by decide +kernel
theorem dX5_pour_129 : decode cX5_pour 129 = .ok (.aload_n 0, 1) := by decide +kernel
theorem dX5_pour_130 : decode cX5_pour 130 = .ok (.iload_n 2, 1) := by decide +kernel
theorem dX5_pour_131 : decode cX5_pour 131 = .ok (.aload_n 0, 1) := by decide +kernel
theorem dX5_pour_132 : decode cX5_pour 132 = .ok (.getfield 7, 3) := by decide +kernel
theorem dX5_pour_135 : decode cX5_pour 135 = .ok (.sipush 201, 3) := by decide +kernel
theorem dX5_pour_138 : decode cX5_pour 138 = .ok (.iload_n 1, 1) := by decide +kernel
theorem dX5_pour_139 : decode cX5_pour 139 = .ok (.imul, 1) := by decide +kernel
theorem dX5_pour_140 : decode cX5_pour 140 = .ok (.iload 4, 2) := by decide +kernel
theorem dX5_pour_142 : decode cX5_pour 142 = .ok (.iadd, 1) := by decide +kernel
theorem dX5_pour_143 : decode cX5_pour 143 = .ok (.iaload, 1) := by decide +kernel
theorem dX5_pour_144 : decode cX5_pour 144 = .ok (.aload_n 0, 1) := by decide +kernel
theorem dX5_pour_145 : decode cX5_pour 145 = .ok (.getfield 13, 3) := by decide +kernel
theorem dX5_pour_148 : decode cX5_pour 148 = .ok (.sipush 201, 3) := by decide +kernel
theorem dX5_pour_151 : decode cX5_pour 151 = .ok (.iload_n 1, 1) := by decide +kernel
theorem dX5_pour_152 : decode cX5_pour 152 = .ok (.imul, 1) := by decide +kernel
theorem dX5_pour_153 : decode cX5_pour 153 = .ok (.iload 4, 2) := by decide +kernel
theorem dX5_pour_155 : decode cX5_pour 155 = .ok (.iadd, 1) := by decide +kernel
theorem dX5_pour_156 : decode cX5_pour 156 = .ok (.iaload, 1) := by decide +kernel
theorem dX5_pour_157 : decode cX5_pour 157 = .ok (.invokevirtual 79, 3) := by decide +kernel
theorem dX5_pour_160 : decode cX5_pour 160 = .ok (.iinc 4 1, 3) := by decide +kernel
theorem dX5_pour_163 : decode cX5_pour 163 = .ok (.goto (-45), 3) := by decide +kernel
theorem dX5_pour_166 : decode cX5_pour 166 = .ok (.aload_n 0, 1) := by decide +kernel
theorem dX5_pour_167 : decode cX5_pour 167 = .ok (.iload_n 2, 1) := by decide +kernel
theorem dX5_pour_168 : decode cX5_pour 168 = .ok (.iconst (-1), 1) := by decide +kernel
theorem dX5_pour_169 : decode cX5_pour 169 = .ok (.invokevirtual 62, 3) := by decide +kernel
theorem dX5_pour_172 : decode cX5_pour 172 = .ok (.aload_n 0, 1) := by decide +kernel
theorem dX5_pour_173 : decode cX5_pour 173 = .ok (.aload_n 0, 1) := by decide +kernel
theorem dX5_pour_174 : decode cX5_pour 174 = .ok (.getfield 16, 3) := by decide +kernel
theorem dX5_pour_177 : decode cX5_pour 177 = .ok (.iload_n 2, 1) := by decide +kernel
theorem dX5_pour_178 : decode cX5_pour 178 = .ok (.iaload, 1) := by decide +kernel
theorem dX5_pour_179 : decode cX5_pour 179 = .ok (.invokevirtual 65, 3) := by decide +kernel
theorem dX5_pour_182 : decode cX5_pour 182 = .ok (.ireturn, 1) := by decide +kernel
theorem dX5_copy_0 : decode cX5_copy 0 = .ok (.iload_n 1, 1) := by decide +kernel
theorem dX5_copy_1 : decode cX5_copy 1 = .ok (.invokestatic 68, 3) := by decide +kernel
theorem dX5_copy_4 : decode cX5_copy 4 = .ok (.ifCond .eq 10, 3) := by decide +kernel
theorem dX5_copy_7 : decode cX5_copy 7 = .ok (.iload_n 2, 1) := by decide +kernel
theorem dX5_copy_8 : decode cX5_copy 8 = .ok (.invokestatic 68, 3) := by decide +kernel
theorem dX5_copy_11 : decode cX5_copy 11 = .ok (.ifCond .ne 9, 3) := by decide +kernel
theorem dX5_copy_14 : decode cX5_copy 14 = .ok (.aload_n 0, 1) := by decide +kernel
theorem dX5_copy_15 : decode cX5_copy 15 = .ok (.iconst 1, 1) := by decide +kernel
theorem dX5_copy_16 : decode cX5_copy 16 = .ok (.invokevirtual 58, 3) := by decide +kernel
theorem dX5_copy_19 : decode cX5_copy 19 = .ok (.ireturn, 1) := by decide +kernel
theorem dX5_copy_20 : decode cX5_copy 20 = .ok (.iload_n 2, 1) := by decide +kernel
theorem dX5_copy_21 : decode cX5_copy 21 = .ok (.invokestatic 86, 3) := by decide +kernel
theorem dX5_copy_24 : decode cX5_copy 24 = .ok (.ifCond .eq 8, 3) := by decide +kernel
theorem dX5_copy_27 : decode cX5_copy 27 = .ok (.iload_n 1, 1) := by decide +kernel
theorem dX5_copy_28 : decode cX5_copy 28 = .ok (.iload_n 2, 1) := by decide +kernel
theorem dX5_copy_29 : decode cX5_copy 29 = .ok (.if_icmp .ne 9, 3) := by decide +kernel
theorem dX5_copy_32 : decode cX5_copy 32 = .ok (.aload_n 0, 1) := by decide +kernel
theorem dX5_copy_33 : decode cX5_copy 33 = .ok (.iconst 2, 1) := by decide +kernel
theorem dX5_copy_34 : decode cX5_copy 34 = .ok (.invokevirtual 58, 3) := by decide +kernel
theorem dX5_copy_37 : decode cX5_copy 37 = .ok (.ireturn, 1) := by decide +kernel
theorem dX5_copy_38 : decode cX5_copy 38 = .ok (.iconst 0, 1) := by decide +kernel
theorem dX5_copy_39 : decode cX5_copy 39 = .ok (.istore_n 3, 1) := by decide +kernel
theorem dX5_copy_40 : decode cX5_copy 40 = .ok (.iload_n 3, 1) := by decide +kernel
theorem dX5_copy_41 : decode cX5_copy 41 = .ok (.aload_n 0, 1) := by decide +kernel
theorem dX5_copy_42 : decode cX5_copy 42 = .ok (.getfield 16, 3) := by decide +kernel
theorem dX5_copy_45 : decode cX5_copy 45 = .ok (.iload_n 1, 1) := by decide +kernel
theorem dX5_copy_46 : decode cX5_copy 46 = .ok (.iaload, 1) := by decide +kernel
theorem dX5_copy_47 : decode cX5_copy 47 = .ok (.if_icmp .ge 57, 3) := by decide +kernel
theorem dX5_copy_50 : decode cX5_copy 50 = .ok (.aload_n 0, 1) := by decide +kernel
theorem dX5_copy_51 : decode cX5_copy 51 = .ok (.getfield 7, 3) := by decide +kernel
theorem dX5_copy_54 : decode cX5_copy 54 = .ok (.sipush 201, 3) := by decide +kernel
theorem dX5_copy_57 : decode cX5_copy 57 = .ok (.iload_n 2, 1) := by decide +kernel
theorem dX5_copy_58 : decode cX5_copy 58 = .ok (.imul, 1) := by decide +kernel
theorem dX5_copy_59 : decode cX5_copy 59 = .ok (.iload_n 3, 1) := by decide +kernel
theorem dX5_copy_60 : decode cX5_copy 60 = .ok (.iadd, 1) := by decide +kernel
theorem dX5_copy_61 : decode cX5_copy 61 = .ok (.aload_n 0, 1) := by decide +kernel
theorem dX5_copy_62 : decode cX5_copy 62 = .ok (.getfield 7, 3) := by decide +kernel
theorem dX5_copy_65 : decode cX5_copy 65 = .ok (.sipush 201, 3) := by decide +kernel
theorem dX5_copy_68 : decode cX5_copy 68 = .ok (.iload_n 1, 1) := by decide +kernel
theorem dX5_copy_69 : decode cX5_copy 69 = .ok (.imul, 1) := by decide +kernel
theorem dX5_copy_70 : decode cX5_copy 70 = .ok (.iload_n 3, 1) := by decide +kernel
theorem dX5_copy_71 : decode cX5_copy 71 = .ok (.iadd, 1) := by decide +kernel
theorem dX5_copy_72 : decode cX5_copy 72 = .ok (.iaload, 1) := by decide +kernel
theorem dX5_copy_73 : decode cX5_copy 73 = .ok (.iastore, 1) := by decide +kernel
theorem dX5_copy_74 : decode cX5_copy 74 = .ok (.aload_n 0, 1) := by decide +kernel
theorem dX5_copy_75 : decode cX5_copy 75 = .ok (.getfield 13, 3) := by decide +kernel
theorem dX5_copy_78 : decode cX5_copy 78 = .ok (.sipush 201, 3) := by decide +kernel
theorem dX5_copy_81 : decode cX5_copy 81 = .ok (.iload_n 2, 1) := by decide +kernel
theorem dX5_copy_82 : decode cX5_copy 82 = .ok (.imul, 1) := by decide +kernel
theorem dX5_copy_83 : decode cX5_copy 83 = .ok (.iload_n 3, 1) := by decide +kernel
theorem dX5_copy_84 : decode cX5_copy 84 = .ok (.iadd, 1) := by decide +kernel
theorem dX5_copy_85 : decode cX5_copy 85 = .ok (.aload_n 0, 1) := by decide +kernel
theorem dX5_copy_86 : decode cX5_copy 86 = .ok (.getfield 13, 3) := by decide +kernel
theorem dX5_copy_89 : decode cX5_copy 89 = .ok (.sipush 201, 3) := by decide +kernel
theorem dX5_copy_92 : decode cX5_copy 92 = .ok (.iload_n 1, 1) := by decide +kernel
theorem dX5_copy_93 : decode cX5_copy 93 = .ok (.imul, 1) := by decide +kernel
theorem dX5_copy_94 : decode cX5_copy 94 = .ok (.iload_n 3, 1) := by decide +kernel
theorem dX5_copy_95 : decode cX5_copy 95 = .ok (.iadd, 1) := by decide +kernel
theorem dX5_copy_96 : decode cX5_copy 96 = .ok (.iaload, 1) := by decide +kernel
theorem dX5_copy_97 : decode cX5_copy 97 = .ok (.iastore, 1) := by decide +kernel
theorem dX5_copy_98 : decode cX5_copy 98 = .ok (.iinc 3 1, 3) := by decide +kernel
theorem dX5_copy_101 : decode cX5_copy 101 = .ok (.goto (-61), 3) := by decide +kernel
theorem dX5_copy_104 : decode cX5_copy 104 = .ok (.aload_n 0, 1) := by decide +kernel
theorem dX5_copy_105 : decode cX5_copy 105 = .ok (.getfield 16, 3) := by decide +kernel
theorem dX5_copy_108 : decode cX5_copy 108 = .ok (.iload_n 2, 1) := by decide +kernel
theorem dX5_copy_109 : decode cX5_copy 109 = .ok (.aload_n 0, 1) := by decide +kernel
theorem dX5_copy_110 : decode cX5_copy 110 = .ok (.getfield 16, 3) := by decide +kernel
theorem dX5_copy_113 : decode cX5_copy 113 = .ok (.iload_n 1, 1) := by decide +kernel
theorem dX5_copy_114 : decode cX5_copy 114 = .ok (.iaload, 1) := by decide +kernel
theorem dX5_copy_115 : decode cX5_copy 115 = .ok (.iastore, 1) := by decide +kernel
theorem dX5_copy_116 : decode cX5_copy 116 = .ok (.aload_n 0, 1) := by decide +kernel
theorem dX5_copy_117 : decode cX5_copy 117 = .ok (.iload_n 2, 1) := by decide +kernel
theorem dX5_copy_118 : decode cX5_copy 118 = .ok (.iconst (-1), 1) := by decide +kernel
theorem dX5_copy_119 : decode cX5_copy 119 = .ok (.invokevirtual 62, 3) := by decide +kernel
theorem dX5_copy_122 : decode cX5_copy 122 = .ok (.aload_n 0, 1) := by decide +kernel
theorem dX5_copy_123 : decode cX5_copy 123 = .ok (.aload_n 0, 1) := by decide +kernel
theorem dX5_copy_124 : decode cX5_copy 124 = .ok (.getfield 16, 3) := by decide +kernel
theorem dX5_copy_127 : decode cX5_copy 127 = .ok (.iload_n 2, 1) := by decide +kernel
theorem dX5_copy_128 : decode cX5_copy 128 = .ok (.iaload, 1) := by decide +kernel
theorem dX5_copy_129 : decode cX5_copy 129 = .ok (.invokevirtual 65, 3) := by decide +kernel
theorem dX5_copy_132 : decode cX5_copy 132 = .ok (.ireturn, 1) := by decide +kernel
theorem dX5_clear_0 : decode cX5_clear 0 = .ok (.iload_n 1, 1) := by decide +kernel
theorem dX5_clear_1 : decode cX5_clear 1 = .ok (.invokestatic 68, 3) := by decide +kernel
theorem dX5_clear_4 : decode cX5_clear 4 = .ok (.ifCond .ne 9, 3) := by decide +kernel
theorem dX5_clear_7 : decode cX5_clear 7 = .ok (.aload_n 0, 1) := by decide +kernel
theorem dX5_clear_8 : decode cX5_clear 8 = .ok (.iconst 1, 1) := by decide +kernel
theorem dX5_clear_9 : decode cX5_clear 9 = .ok (.invokevirtual 58, 3) := by decide +kernel
theorem dX5_clear_12 : decode cX5_clear 12 = .ok (.ireturn, 1) := by decide +kernel
theorem dX5_clear_13 : decode cX5_clear 13 = .ok (.iload_n 1, 1) := by decide +kernel
theorem dX5_clear_14 : decode cX5_clear 14 = .ok (.iconst 3, 1) := by decide +kernel
theorem dX5_clear_15 : decode cX5_clear 15 = .ok (.if_icmp .ne 9, 3) := by decide +kernel
theorem dX5_clear_18 : decode cX5_clear 18 = .ok (.aload_n 0, 1) := by decide +kernel
theorem dX5_clear_19 : decode cX5_clear 19 = .ok (.iconst 2, 1) := by decide +kernel
theorem dX5_clear_20 : decode cX5_clear 20 = .ok (.invokevirtual 58, 3) := by decide +kernel
theorem dX5_clear_23 : decode cX5_clear 23 = .ok (.ireturn, 1) := by decide +kernel
theorem dX5_clear_24 : decode cX5_clear 24 = .ok (.aload_n 0, 1) := by decide +kernel
theorem dX5_clear_25 : decode cX5_clear 25 = .ok (.getfield 16, 3) := by decide +kernel
theorem dX5_clear_28 : decode cX5_clear 28 = .ok (.iload_n 1, 1) := by decide +kernel
theorem dX5_clear_29 : decode cX5_clear 29 = .ok (.iaload, 1) := by decide +kernel
theorem dX5_clear_30 : decode cX5_clear 30 = .ok (.istore_n 2, 1) := by decide +kernel
theorem dX5_clear_31 : decode cX5_clear 31 = .ok (.aload_n 0, 1) := by decide +kernel
theorem dX5_clear_32 : decode cX5_clear 32 = .ok (.getfield 16, 3) := by decide +kernel
theorem dX5_clear_35 : decode cX5_clear 35 = .ok (.iload_n 1, 1) := by decide +kernel
theorem dX5_clear_36 : decode cX5_clear 36 = .ok (.iconst 0, 1) := by decide +kernel
theorem dX5_clear_37 : decode cX5_clear 37 = .ok (.iastore, 1) := by decide +kernel
theorem dX5_clear_38 : decode cX5_clear 38 = .ok (.aload_n 0, 1) := by decide +kernel
theorem dX5_clear_39 : decode cX5_clear 39 = .ok (.iload_n 1, 1) := by decide +kernel
theorem dX5_clear_40 : decode cX5_clear 40 = .ok (.iconst (-1), 1) := by decide +kernel
theorem dX5_clear_41 : decode cX5_clear 41 = .ok (.invokevirtual 62, 3) := by decide +kernel
theorem dX5_clear_44 : decode cX5_clear 44 = .ok (.aload_n 0, 1) := by decide +kernel
theorem dX5_clear_45 : decode cX5_clear 45 = .ok (.iload_n 2, 1) := by decide +kernel
theorem dX5_clear_46 : decode cX5_clear 46 = .ok (.invokevirtual 65, 3) := by decide +kernel
theorem dX5_clear_49 : decode cX5_clear 49 = .ok (.ireturn, 1) := by decide +kernel
theorem dX5_offer_0 : decode cX5_offer 0 = .ok (.aload_n 0, 1) := by decide +kernel
theorem dX5_offer_1 : decode cX5_offer 1 = .ok (.iconst 3, 1) := by decide +kernel
theorem dX5_offer_2 : decode cX5_offer 2 = .ok (.iload_n 1, 1) := by decide +kernel
theorem dX5_offer_3 : decode cX5_offer 3 = .ok (.invokevirtual 75, 3) := by decide +kernel
theorem dX5_offer_6 : decode cX5_offer 6 = .ok (.ifCond .eq 9, 3) := by decide +kernel
theorem dX5_offer_9 : decode cX5_offer 9 = .ok (.aload_n 0, 1) := by decide +kernel
theorem dX5_offer_10 : decode cX5_offer 10 = .ok (.iconst 1, 1) := by decide +kernel
theorem dX5_offer_11 : decode cX5_offer 11 = .ok (.invokevirtual 72, 3) := by decide +kernel
theorem dX5_offer_14 : decode cX5_offer 14 = .ok (.ireturn, 1) := by decide +kernel
theorem dX5_offer_15 : decode cX5_offer 15 = .ok (.aload_n 0, 1) := by decide +kernel
theorem dX5_offer_16 : decode cX5_offer 16 = .ok (.iconst 3, 1) := by decide +kernel
theorem dX5_offer_17 : decode cX5_offer 17 = .ok (.iload_n 1, 1) := by decide +kernel
theorem dX5_offer_18 : decode cX5_offer 18 = .ok (.invokevirtual 50, 3) := by decide +kernel
theorem dX5_offer_21 : decode cX5_offer 21 = .ok (.istore_n 2, 1) := by decide +kernel
theorem dX5_offer_22 : decode cX5_offer 22 = .ok (.aload_n 0, 1) := by decide +kernel
theorem dX5_offer_23 : decode cX5_offer 23 = .ok (.iconst 3, 1) := by decide +kernel
theorem dX5_offer_24 : decode cX5_offer 24 = .ok (.iload_n 1, 1) := by decide +kernel
theorem dX5_offer_25 : decode cX5_offer 25 = .ok (.iload_n 2, 1) := by decide +kernel
theorem dX5_offer_26 : decode cX5_offer 26 = .ok (.iconst (-1), 1) := by decide +kernel
theorem dX5_offer_27 : decode cX5_offer 27 = .ok (.if_icmp .ne 7, 3) := by decide +kernel
theorem dX5_offer_30 : decode cX5_offer 30 = .ok (.iconst 1, 1) := by decide +kernel
theorem dX5_offer_31 : decode cX5_offer 31 = .ok (.goto 15, 3) := by decide +kernel
theorem dX5_offer_34 : decode cX5_offer 34 = .ok (.aload_n 0, 1) := by decide +kernel
theorem dX5_offer_35 : decode cX5_offer 35 = .ok (.getfield 13, 3) := by decide +kernel
theorem dX5_offer_38 : decode cX5_offer 38 = .ok (.sipush 603, 3) := by decide +kernel
theorem dX5_offer_41 : decode cX5_offer 41 = .ok (.iload_n 2, 1) := by decide +kernel
theorem dX5_offer_42 : decode cX5_offer 42 = .ok (.iadd, 1) := by decide +kernel
theorem dX5_offer_43 : decode cX5_offer 43 = .ok (.iaload, 1) := by decide +kernel
theorem dX5_offer_44 : decode cX5_offer 44 = .ok (.iconst 1, 1) := by decide +kernel
theorem dX5_offer_45 : decode cX5_offer 45 = .ok (.iadd, 1) := by decide +kernel
theorem dX5_offer_46 : decode cX5_offer 46 = .ok (.invokevirtual 79, 3) := by decide +kernel
theorem dX5_offer_49 : decode cX5_offer 49 = .ok (.aload_n 0, 1) := by decide +kernel
theorem dX5_offer_50 : decode cX5_offer 50 = .ok (.iconst 3, 1) := by decide +kernel
theorem dX5_offer_51 : decode cX5_offer 51 = .ok (.iconst (-1), 1) := by decide +kernel
theorem dX5_offer_52 : decode cX5_offer 52 = .ok (.invokevirtual 62, 3) := by decide +kernel
theorem dX5_offer_55 : decode cX5_offer 55 = .ok (.aload_n 0, 1) := by decide +kernel
theorem dX5_offer_56 : decode cX5_offer 56 = .ok (.iload_n 2, 1) := by decide +kernel
theorem dX5_offer_57 : decode cX5_offer 57 = .ok (.iconst (-1), 1) := by decide +kernel
theorem dX5_offer_58 : decode cX5_offer 58 = .ok (.if_icmp .ne 7, 3) := by decide +kernel
theorem dX5_offer_61 : decode cX5_offer 61 = .ok (.iconst 1, 1) := by decide +kernel
theorem dX5_offer_62 : decode cX5_offer 62 = .ok (.goto 4, 3) := by decide +kernel
theorem dX5_offer_65 : decode cX5_offer 65 = .ok (.iconst 0, 1) := by decide +kernel
theorem dX5_offer_66 : decode cX5_offer 66 = .ok (.invokevirtual 82, 3) := by decide +kernel
theorem dX5_offer_69 : decode cX5_offer 69 = .ok (.ireturn, 1) := by decide +kernel
theorem dX5_poll_0 : decode cX5_poll 0 = .ok (.aload_n 0, 1) := by decide +kernel
theorem dX5_poll_1 : decode cX5_poll 1 = .ok (.getfield 16, 3) := by decide +kernel
theorem dX5_poll_4 : decode cX5_poll 4 = .ok (.iconst 3, 1) := by decide +kernel
theorem dX5_poll_5 : decode cX5_poll 5 = .ok (.iaload, 1) := by decide +kernel
theorem dX5_poll_6 : decode cX5_poll 6 = .ok (.ifCond .ne 9, 3) := by decide +kernel
theorem dX5_poll_9 : decode cX5_poll 9 = .ok (.aload_n 0, 1) := by decide +kernel
theorem dX5_poll_10 : decode cX5_poll 10 = .ok (.iconst 1, 1) := by decide +kernel
theorem dX5_poll_11 : decode cX5_poll 11 = .ok (.invokevirtual 58, 3) := by decide +kernel
theorem dX5_poll_14 : decode cX5_poll 14 = .ok (.ireturn, 1) := by decide +kernel
theorem dX5_poll_15 : decode cX5_poll 15 = .ok (.aload_n 0, 1) := by decide +kernel
theorem dX5_poll_16 : decode cX5_poll 16 = .ok (.getfield 7, 3) := by decide +kernel
theorem dX5_poll_19 : decode cX5_poll 19 = .ok (.sipush 603, 3) := by decide +kernel
theorem dX5_poll_22 : decode cX5_poll 22 = .ok (.iaload, 1) := by decide +kernel
theorem dX5_poll_23 : decode cX5_poll 23 = .ok (.istore_n 1, 1) := by decide +kernel
theorem dX5_poll_24 : decode cX5_poll 24 = .ok (.aload_n 0, 1) := by decide +kernel
theorem dX5_poll_25 : decode cX5_poll 25 = .ok (.iconst 3, 1) := by decide +kernel
theorem dX5_poll_26 : decode cX5_poll 26 = .ok (.iconst 0, 1) := by decide +kernel
theorem dX5_poll_27 : decode cX5_poll 27 = .ok (.invokevirtual 46, 3) := by decide +kernel
theorem dX5_poll_30 : decode cX5_poll 30 = .ok (.aload_n 0, 1) := by decide +kernel
theorem dX5_poll_31 : decode cX5_poll 31 = .ok (.iconst 3, 1) := by decide +kernel
theorem dX5_poll_32 : decode cX5_poll 32 = .ok (.iconst (-1), 1) := by decide +kernel
theorem dX5_poll_33 : decode cX5_poll 33 = .ok (.invokevirtual 62, 3) := by decide +kernel
theorem dX5_poll_36 : decode cX5_poll 36 = .ok (.aload_n 0, 1) := by decide +kernel
theorem dX5_poll_37 : decode cX5_poll 37 = .ok (.iload_n 1, 1) := by decide +kernel
theorem dX5_poll_38 : decode cX5_poll 38 = .ok (.invokevirtual 65, 3) := by decide +kernel
theorem dX5_poll_41 : decode cX5_poll 41 = .ok (.ireturn, 1) := by decide +kernel
theorem dX5_toEnd_0 : decode cX5_toEnd 0 = .ok (.aload_n 0, 1) := by decide +kernel
theorem dX5_toEnd_1 : decode cX5_toEnd 1 = .ok (.iconst 3, 1) := by decide +kernel
theorem dX5_toEnd_2 : decode cX5_toEnd 2 = .ok (.iload_n 1, 1) := by decide +kernel
theorem dX5_toEnd_3 : decode cX5_toEnd 3 = .ok (.invokevirtual 50, 3) := by decide +kernel
theorem dX5_toEnd_6 : decode cX5_toEnd 6 = .ok (.istore_n 2, 1) := by decide +kernel
theorem dX5_toEnd_7 : decode cX5_toEnd 7 = .ok (.iload_n 2, 1) := by decide +kernel
theorem dX5_toEnd_8 : decode cX5_toEnd 8 = .ok (.iconst (-1), 1) := by decide +kernel
theorem dX5_toEnd_9 : decode cX5_toEnd 9 = .ok (.if_icmp .ne 9, 3) := by decide +kernel
theorem dX5_toEnd_12 : decode cX5_toEnd 12 = .ok (.aload_n 0, 1) := by decide +kernel
theorem dX5_toEnd_13 : decode cX5_toEnd 13 = .ok (.iconst 1, 1) := by decide +kernel
theorem dX5_toEnd_14 : decode cX5_toEnd 14 = .ok (.invokevirtual 58, 3) := by decide +kernel
theorem dX5_toEnd_17 : decode cX5_toEnd 17 = .ok (.ireturn, 1) := by decide +kernel
theorem dX5_toEnd_18 : decode cX5_toEnd 18 = .ok (.aload_n 0, 1) := by decide +kernel
theorem dX5_toEnd_19 : decode cX5_toEnd 19 = .ok (.getfield 13, 3) := by decide +kernel
theorem dX5_toEnd_22 : decode cX5_toEnd 22 = .ok (.sipush 603, 3) := by decide +kernel
theorem dX5_toEnd_25 : decode cX5_toEnd 25 = .ok (.iload_n 2, 1) := by decide +kernel
theorem dX5_toEnd_26 : decode cX5_toEnd 26 = .ok (.iadd, 1) := by decide +kernel
theorem dX5_toEnd_27 : decode cX5_toEnd 27 = .ok (.iaload, 1) := by decide +kernel
theorem dX5_toEnd_28 : decode cX5_toEnd 28 = .ok (.istore_n 3, 1) := by decide +kernel
theorem dX5_toEnd_29 : decode cX5_toEnd 29 = .ok (.aload_n 0, 1) := by decide +kernel
theorem dX5_toEnd_30 : decode cX5_toEnd 30 = .ok (.iconst 3, 1) := by decide +kernel
theorem dX5_toEnd_31 : decode cX5_toEnd 31 = .ok (.iload_n 2, 1) := by decide +kernel
theorem dX5_toEnd_32 : decode cX5_toEnd 32 = .ok (.invokevirtual 46, 3) := by decide +kernel
theorem dX5_toEnd_35 : decode cX5_toEnd 35 = .ok (.aload_n 0, 1) := by decide +kernel
theorem dX5_toEnd_36 : decode cX5_toEnd 36 = .ok (.iconst 3, 1) := by decide +kernel
theorem dX5_toEnd_37 : decode cX5_toEnd 37 = .ok (.iload_n 1, 1) := by decide +kernel
theorem dX5_toEnd_38 : decode cX5_toEnd 38 = .ok (.iload_n 3, 1) := by decide +kernel
theorem dX5_toEnd_39 : decode cX5_toEnd 39 = .ok (.invokevirtual 54, 3) := by decide +kernel
theorem dX5_toEnd_42 : decode cX5_toEnd 42 = .ok (.aload_n 0, 1) := by decide +kernel
theorem dX5_toEnd_43 : decode cX5_toEnd 43 = .ok (.iconst 3, 1) := by decide +kernel
theorem dX5_toEnd_44 : decode cX5_toEnd 44 = .ok (.iconst (-1), 1) := by decide +kernel
theorem dX5_toEnd_45 : decode cX5_toEnd 45 = .ok (.invokevirtual 62, 3) := by decide +kernel
theorem dX5_toEnd_48 : decode cX5_toEnd 48 = .ok (.aload_n 0, 1) := by decide +kernel
theorem dX5_toEnd_49 : decode cX5_toEnd 49 = .ok (.iload_n 2, 1) := by decide +kernel
theorem dX5_toEnd_50 : decode cX5_toEnd 50 = .ok (.invokevirtual 65, 3) := by decide +kernel
theorem dX5_toEnd_53 : decode cX5_toEnd 53 = .ok (.ireturn, 1) := by decide +kernel
theorem dX5_isCursor_0 : decode cX5_isCursor 0 = .ok (.iload_n 0, 1) := by decide +kernel
theorem dX5_isCursor_1 : decode cX5_isCursor 1 = .ok (.iconst 0, 1) := by decide +kernel
theorem dX5_isCursor_2 : decode cX5_isCursor 2 = .ok (.iconst 2, 1) := by decide +kernel
theorem dX5_isCursor_3 : decode cX5_isCursor 3 = .ok (.invokestatic 42, 3) := by decide +kernel
theorem dX5_isCursor_6 : decode cX5_isCursor 6 = .ok (.ireturn, 1) := by decide +kernel
theorem dX5_isOpen_0 : decode cX5_isOpen 0 = .ok (.aload_n 0, 1) := by decide +kernel
theorem dX5_isOpen_1 : decode cX5_isOpen 1 = .ok (.getfield 23, 3) := by decide +kernel
theorem dX5_isOpen_4 : decode cX5_isOpen 4 = .ok (.iload_n 1, 1) := by decide +kernel
theorem dX5_isOpen_5 : decode cX5_isOpen 5 = .ok (.iaload, 1) := by decide +kernel
theorem dX5_isOpen_6 : decode cX5_isOpen 6 = .ok (.iconst (-1), 1) := by decide +kernel
theorem dX5_isOpen_7 : decode cX5_isOpen 7 = .ok (.if_icmp .eq 7, 3) := by decide +kernel
theorem dX5_isOpen_10 : decode cX5_isOpen 10 = .ok (.iconst 1, 1) := by decide +kernel
theorem dX5_isOpen_11 : decode cX5_isOpen 11 = .ok (.goto 4, 3) := by decide +kernel
theorem dX5_isOpen_14 : decode cX5_isOpen 14 = .ok (.iconst 0, 1) := by decide +kernel
theorem dX5_isOpen_15 : decode cX5_isOpen 15 = .ok (.ireturn, 1) := by decide +kernel
theorem dX5_open_0 : decode cX5_open 0 = .ok (.iload_n 1, 1) := by decide +kernel
theorem dX5_open_1 : decode cX5_open 1 = .ok (.invokestatic 92, 3) := by decide +kernel
theorem dX5_open_4 : decode cX5_open 4 = .ok (.ifCond .eq 10, 3) := by decide +kernel
theorem dX5_open_7 : decode cX5_open 7 = .ok (.iload_n 2, 1) := by decide +kernel
theorem dX5_open_8 : decode cX5_open 8 = .ok (.invokestatic 68, 3) := by decide +kernel
theorem dX5_open_11 : decode cX5_open 11 = .ok (.ifCond .ne 9, 3) := by decide +kernel
theorem dX5_open_14 : decode cX5_open 14 = .ok (.aload_n 0, 1) := by decide +kernel
theorem dX5_open_15 : decode cX5_open 15 = .ok (.iconst 1, 1) := by decide +kernel
theorem dX5_open_16 : decode cX5_open 16 = .ok (.invokevirtual 58, 3) := by decide +kernel
theorem dX5_open_19 : decode cX5_open 19 = .ok (.ireturn, 1) := by decide +kernel
theorem dX5_open_20 : decode cX5_open 20 = .ok (.iload_n 3, 1) := by decide +kernel
theorem dX5_open_21 : decode cX5_open 21 = .ok (.iconst 0, 1) := by decide +kernel
theorem dX5_open_22 : decode cX5_open 22 = .ok (.iconst 2, 1) := by decide +kernel
theorem dX5_open_23 : decode cX5_open 23 = .ok (.invokestatic 42, 3) := by decide +kernel
theorem dX5_open_26 : decode cX5_open 26 = .ok (.ifCond .ne 9, 3) := by decide +kernel
theorem dX5_open_29 : decode cX5_open 29 = .ok (.aload_n 0, 1) := by decide +kernel
theorem dX5_open_30 : decode cX5_open 30 = .ok (.iconst 2, 1) := by decide +kernel
theorem dX5_open_31 : decode cX5_open 31 = .ok (.invokevirtual 58, 3) := by decide +kernel
theorem dX5_open_34 : decode cX5_open 34 = .ok (.ireturn, 1) := by decide +kernel
theorem dX5_open_35 : decode cX5_open 35 = .ok (.aload_n 0, 1) := by decide +kernel
theorem dX5_open_36 : decode cX5_open 36 = .ok (.getfield 23, 3) := by decide +kernel
theorem dX5_open_39 : decode cX5_open 39 = .ok (.iload_n 1, 1) := by decide +kernel
theorem dX5_open_40 : decode cX5_open 40 = .ok (.iload_n 2, 1) := by decide +kernel
theorem dX5_open_41 : decode cX5_open 41 = .ok (.iastore, 1) := by decide +kernel
theorem dX5_open_42 : decode cX5_open 42 = .ok (.aload_n 0, 1) := by decide +kernel
theorem dX5_open_43 : decode cX5_open 43 = .ok (.getfield 26, 3) := by decide +kernel
theorem dX5_open_46 : decode cX5_open 46 = .ok (.iload_n 1, 1) := by decide +kernel
theorem dX5_open_47 : decode cX5_open 47 = .ok (.iload_n 3, 1) := by decide +kernel
theorem dX5_open_48 : decode cX5_open 48 = .ok (.iastore, 1) := by decide +kernel
theorem dX5_open_49 : decode cX5_open 49 = .ok (.aload_n 0, 1) := by decide +kernel
theorem dX5_open_50 : decode cX5_open 50 = .ok (.getfield 29, 3) := by decide +kernel
theorem dX5_open_53 : decode cX5_open 53 = .ok (.iload_n 1, 1) := by decide +kernel
theorem dX5_open_54 : decode cX5_open 54 = .ok (.iconst 0, 1) := by decide +kernel
theorem dX5_open_55 : decode cX5_open 55 = .ok (.iastore, 1) := by decide +kernel
theorem dX5_open_56 : decode cX5_open 56 = .ok (.aload_n 0, 1) := by decide +kernel
theorem dX5_open_57 : decode cX5_open 57 = .ok (.getfield 32, 3) := by decide +kernel
theorem dX5_open_60 : decode cX5_open 60 = .ok (.iload_n 1, 1) := by decide +kernel
theorem dX5_open_61 : decode cX5_open 61 = .ok (.iconst 0, 1) := by decide +kernel
theorem dX5_open_62 : decode cX5_open 62 = .ok (.bastore, 1) := by decide +kernel
theorem dX5_open_63 : decode cX5_open 63 = .ok (.aload_n 0, 1) := by decide +kernel
theorem dX5_open_64 : decode cX5_open 64 = .ok (.aload_n 0, 1) := by decide +kernel
theorem dX5_open_65 : decode cX5_open 65 = .ok (.getfield 16, 3) := by decide +kernel
theorem dX5_open_68 : decode cX5_open 68 = .ok (.iload_n 2, 1) := by decide +kernel
theorem dX5_open_69 : decode cX5_open 69 = .ok (.iaload, 1) := by decide +kernel
theorem dX5_open_70 : decode cX5_open 70 = .ok (.invokevirtual 65, 3) := by decide +kernel
theorem dX5_open_73 : decode cX5_open 73 = .ok (.ireturn, 1) := by decide +kernel
theorem dX5_hasNext_0 : decode cX5_hasNext 0 = .ok (.iload_n 1, 1) := by decide +kernel
theorem dX5_hasNext_1 : decode cX5_hasNext 1 = .ok (.invokestatic 92, 3) := by decide +kernel
theorem dX5_hasNext_4 : decode cX5_hasNext 4 = .ok (.ifCond .ne 9, 3) := by decide +kernel
theorem dX5_hasNext_7 : decode cX5_hasNext 7 = .ok (.aload_n 0, 1) := by decide +kernel
theorem dX5_hasNext_8 : decode cX5_hasNext 8 = .ok (.iconst 1, 1) := by decide +kernel
theorem dX5_hasNext_9 : decode cX5_hasNext 9 = .ok (.invokevirtual 72, 3) := by decide +kernel
theorem dX5_hasNext_12 : decode cX5_hasNext 12 = .ok (.ireturn, 1) := by decide +kernel
theorem dX5_hasNext_13 : decode cX5_hasNext 13 = .ok (.aload_n 0, 1) := by decide +kernel
theorem dX5_hasNext_14 : decode cX5_hasNext 14 = .ok (.iload_n 1, 1) := by decide +kernel
theorem dX5_hasNext_15 : decode cX5_hasNext 15 = .ok (.invokevirtual 95, 3) := by decide +kernel
theorem dX5_hasNext_18 : decode cX5_hasNext 18 = .ok (.ifCond .eq 35, 3) := by decide +kernel
theorem dX5_hasNext_21 : decode cX5_hasNext 21 = .ok (.aload_n 0, 1) := by decide +kernel
theorem dX5_hasNext_22 : decode cX5_hasNext 22 = .ok (.aload_n 0, 1) := by decide +kernel
theorem dX5_hasNext_23 : decode cX5_hasNext 23 = .ok (.getfield 29, 3) := by decide +kernel
theorem dX5_hasNext_26 : decode cX5_hasNext 26 = .ok (.iload_n 1, 1) := by decide +kernel
theorem dX5_hasNext_27 : decode cX5_hasNext 27 = .ok (.iaload, 1) := by decide +kernel
theorem dX5_hasNext_28 : decode cX5_hasNext 28 = .ok (.aload_n 0, 1) := by decide +kernel
theorem dX5_hasNext_29 : decode cX5_hasNext 29 = .ok (.getfield 16, 3) := by decide +kernel
theorem dX5_hasNext_32 : decode cX5_hasNext 32 = .ok (.aload_n 0, 1) := by decide +kernel
theorem dX5_hasNext_33 : decode cX5_hasNext 33 = .ok (.getfield 23, 3) := by decide +kernel
theorem dX5_hasNext_36 : decode cX5_hasNext 36 = .ok (.iload_n 1, 1) := by decide +kernel
theorem dX5_hasNext_37 : decode cX5_hasNext 37 = .ok (.iaload, 1) := by decide +kernel
theorem dX5_hasNext_38 : decode cX5_hasNext 38 = .ok (.iaload, 1) := by decide +kernel
theorem dX5_hasNext_39 : decode cX5_hasNext 39 = .ok (.if_icmp .ge 7, 3) := by decide +kernel
theorem dX5_hasNext_42 : decode cX5_hasNext 42 = .ok (.iconst 1, 1) := by decide +kernel
theorem dX5_hasNext_43 : decode cX5_hasNext 43 = .ok (.goto 4, 3) := by decide +kernel
theorem dX5_hasNext_46 : decode cX5_hasNext 46 = .ok (.iconst 0, 1) := by decide +kernel
theorem dX5_hasNext_47 : decode cX5_hasNext 47 = .ok (.invokevirtual 82, 3) := by decide +kernel
theorem dX5_hasNext_50 : decode cX5_hasNext 50 = .ok (.goto 8, 3) := by decide +kernel
theorem dX5_hasNext_53 : decode cX5_hasNext 53 = .ok (.aload_n 0, 1) := by decide +kernel
theorem dX5_hasNext_54 : decode cX5_hasNext 54 = .ok (.iconst 2, 1) := by decide +kernel
theorem dX5_hasNext_55 : decode cX5_hasNext 55 = .ok (.invokevirtual 72, 3) := by decide +kernel
theorem dX5_hasNext_58 : decode cX5_hasNext 58 = .ok (.ireturn, 1) := by decide +kernel
theorem dX5_next_0 : decode cX5_next 0 = .ok (.iload_n 1, 1) := by decide +kernel
theorem dX5_next_1 : decode cX5_next 1 = .ok (.invokestatic 92, 3) := by decide +kernel
theorem dX5_next_4 : decode cX5_next 4 = .ok (.ifCond .ne 9, 3) := by decide +kernel
theorem dX5_next_7 : decode cX5_next 7 = .ok (.aload_n 0, 1) := by decide +kernel
theorem dX5_next_8 : decode cX5_next 8 = .ok (.iconst 1, 1) := by decide +kernel
theorem dX5_next_9 : decode cX5_next 9 = .ok (.invokevirtual 58, 3) := by decide +kernel
theorem dX5_next_12 : decode cX5_next 12 = .ok (.ireturn, 1) := by decide +kernel
theorem dX5_next_13 : decode cX5_next 13 = .ok (.aload_n 0, 1) := by decide +kernel
theorem dX5_next_14 : decode cX5_next 14 = .ok (.iload_n 1, 1) := by decide +kernel
theorem dX5_next_15 : decode cX5_next 15 = .ok (.invokevirtual 95, 3) := by decide +kernel
theorem dX5_next_18 : decode cX5_next 18 = .ok (.ifCond .ne 9, 3) := by decide +kernel
theorem dX5_next_21 : decode cX5_next 21 = .ok (.aload_n 0, 1) := by decide +kernel
theorem dX5_next_22 : decode cX5_next 22 = .ok (.iconst 2, 1) := by decide +kernel
theorem dX5_next_23 : decode cX5_next 23 = .ok (.invokevirtual 58, 3) := by decide +kernel
theorem dX5_next_26 : decode cX5_next 26 = .ok (.ireturn, 1) := by decide +kernel
theorem dX5_next_27 : decode cX5_next 27 = .ok (.aload_n 0, 1) := by decide +kernel
theorem dX5_next_28 : decode cX5_next 28 = .ok (.getfield 23, 3) := by decide +kernel
theorem dX5_next_31 : decode cX5_next 31 = .ok (.iload_n 1, 1) := by decide +kernel
theorem dX5_next_32 : decode cX5_next 32 = .ok (.iaload, 1) := by decide +kernel
theorem dX5_next_33 : decode cX5_next 33 = .ok (.istore_n 2, 1) := by decide +kernel
theorem dX5_next_34 : decode cX5_next 34 = .ok (.aload_n 0, 1) := by decide +kernel
theorem dX5_next_35 : decode cX5_next 35 = .ok (.getfield 29, 3) := by decide +kernel
theorem dX5_next_38 : decode cX5_next 38 = .ok (.iload_n 1, 1) := by decide +kernel
theorem dX5_next_39 : decode cX5_next 39 = .ok (.iaload, 1) := by decide +kernel
theorem dX5_next_40 : decode cX5_next 40 = .ok (.istore_n 3, 1) := by decide +kernel
theorem dX5_next_41 : decode cX5_next 41 = .ok (.iload_n 3, 1) := by decide +kernel
theorem dX5_next_42 : decode cX5_next 42 = .ok (.aload_n 0, 1) := by decide +kernel
theorem dX5_next_43 : decode cX5_next 43 = .ok (.getfield 16, 3) := by decide +kernel
theorem dX5_next_46 : decode cX5_next 46 = .ok (.iload_n 2, 1) := by decide +kernel
theorem dX5_next_47 : decode cX5_next 47 = .ok (.iaload, 1) := by decide +kernel
theorem dX5_next_48 : decode cX5_next 48 = .ok (.if_icmp .ne 9, 3) := by decide +kernel
theorem dX5_next_51 : decode cX5_next 51 = .ok (.aload_n 0, 1) := by decide +kernel
theorem dX5_next_52 : decode cX5_next 52 = .ok (.iconst 3, 1) := by decide +kernel
theorem dX5_next_53 : decode cX5_next 53 = .ok (.invokevirtual 58, 3) := by decide +kernel
theorem dX5_next_56 : decode cX5_next 56 = .ok (.ireturn, 1) := by decide +kernel
theorem dX5_next_57 : decode cX5_next 57 = .ok (.aload_n 0, 1) := by decide +kernel
theorem dX5_next_58 : decode cX5_next 58 = .ok (.getfield 29, 3) := by decide +kernel
theorem dX5_next_61 : decode cX5_next 61 = .ok (.iload_n 1, 1) := by decide +kernel
theorem dX5_next_62 : decode cX5_next 62 = .ok (.dup2, 1) := by decide +kernel
theorem dX5_next_63 : decode cX5_next 63 = .ok (.iaload, 1) := by decide +kernel
theorem dX5_next_64 : decode cX5_next 64 = .ok (.iconst 1, 1) := by decide +kernel
theorem dX5_next_65 : decode cX5_next 65 = .ok (.iadd, 1) := by decide +kernel
theorem dX5_next_66 : decode cX5_next 66 = .ok (.iastore, 1) := by decide +kernel
theorem dX5_next_67 : decode cX5_next 67 = .ok (.aload_n 0, 1) := by decide +kernel
theorem dX5_next_68 : decode cX5_next 68 = .ok (.getfield 32, 3) := by decide +kernel
theorem dX5_next_71 : decode cX5_next 71 = .ok (.iload_n 1, 1) := by decide +kernel
theorem dX5_next_72 : decode cX5_next 72 = .ok (.iconst 1, 1) := by decide +kernel
theorem dX5_next_73 : decode cX5_next 73 = .ok (.bastore, 1) := by decide +kernel
theorem dX5_next_74 : decode cX5_next 74 = .ok (.aload_n 0, 1) := by decide +kernel
theorem dX5_next_75 : decode cX5_next 75 = .ok (.aload_n 0, 1) := by decide +kernel
theorem dX5_next_76 : decode cX5_next 76 = .ok (.getfield 26, 3) := by decide +kernel
theorem dX5_next_79 : decode cX5_next 79 = .ok (.iload_n 1, 1) := by decide +kernel
theorem dX5_next_80 : decode cX5_next 80 = .ok (.iaload, 1) := by decide +kernel
theorem dX5_next_81 : decode cX5_next 81 = .ok (.iconst 1, 1) := by decide +kernel
theorem dX5_next_82 : decode cX5_next 82 = .ok (.if_icmp .ne 18, 3) := by decide +kernel
theorem dX5_next_85 : decode cX5_next 85 = .ok (.aload_n 0, 1) := by decide +kernel
theorem dX5_next_86 : decode cX5_next 86 = .ok (.getfield 13, 3) := by decide +kernel
theorem dX5_next_89 : decode cX5_next 89 = .ok (.sipush 201, 3) := by decide +kernel
theorem dX5_next_92 : decode cX5_next 92 = .ok (.iload_n 2, 1) := by decide +kernel
theorem dX5_next_93 : decode cX5_next 93 = .ok (.imul, 1) := by decide +kernel
theorem dX5_next_94 : decode cX5_next 94 = .ok (.iload_n 3, 1) := by decide +kernel
theorem dX5_next_95 : decode cX5_next 95 = .ok (.iadd, 1) := by decide +kernel
theorem dX5_next_96 : decode cX5_next 96 = .ok (.iaload, 1) := by decide +kernel
theorem dX5_next_97 : decode cX5_next 97 = .ok (.goto 15, 3) := by decide +kernel
theorem dX5_next_100 : decode cX5_next 100 = .ok (.aload_n 0, 1) := by decide +kernel
theorem dX5_next_101 : decode cX5_next 101 = .ok (.getfield 7, 3) := by decide +kernel
theorem dX5_next_104 : decode cX5_next 104 = .ok (.sipush 201, 3) := by decide +kernel
theorem dX5_next_107 : decode cX5_next 107 = .ok (.iload_n 2, 1) := by decide +kernel
theorem dX5_next_108 : decode cX5_next 108 = .ok (.imul, 1) := by decide +kernel
theorem dX5_next_109 : decode cX5_next 109 = .ok (.iload_n 3, 1) := by decide +kernel
theorem dX5_next_110 : decode cX5_next 110 = .ok (.iadd, 1) := by decide +kernel
theorem dX5_next_111 : decode cX5_next 111 = .ok (.iaload, 1) := by decide +kernel
theorem dX5_next_112 : decode cX5_next 112 = .ok (.invokevirtual 65, 3) := by decide +kernel
theorem dX5_next_115 : decode cX5_next 115 = .ok (.ireturn, 1) := by decide +kernel
theorem dX5_canChange_0 : decode cX5_canChange 0 = .ok (.aload_n 0, 1) := by decide +kernel
theorem dX5_canChange_1 : decode cX5_canChange 1 = .ok (.iload_n 1, 1) := by decide +kernel
theorem dX5_canChange_2 : decode cX5_canChange 2 = .ok (.invokevirtual 95, 3) := by decide +kernel
theorem dX5_canChange_5 : decode cX5_canChange 5 = .ok (.ifCond .eq 26, 3) := by decide +kernel
theorem dX5_canChange_8 : decode cX5_canChange 8 = .ok (.aload_n 0, 1) := by decide +kernel
theorem dX5_canChange_9 : decode cX5_canChange 9 = .ok (.getfield 23, 3) := by decide +kernel
theorem dX5_canChange_12 : decode cX5_canChange 12 = .ok (.iload_n 1, 1) := by decide +kernel
