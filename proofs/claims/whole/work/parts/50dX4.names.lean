theorem dX4_init_0 : decode cX4_init 0 = .ok (.aload_n 0, 1) := by decide +kernel
theorem dX4_init_1 : decode cX4_init 1 = .ok (.invokespecial 3, 3) := by decide +kernel
theorem dX4_init_4 : decode cX4_init 4 = .ok (.aload_n 0, 1) := by decide +kernel
theorem dX4_init_5 : decode cX4_init 5 = .ok (.bipush 8, 2) := by decide +kernel
theorem dX4_init_7 : decode cX4_init 7 = .ok (.newarray .int, 2) := by decide +kernel
theorem dX4_init_9 : decode cX4_init 9 = .ok (.putfield 9, 3) := by decide +kernel
theorem dX4_init_12 : decode cX4_init 12 = .ok (.return_, 1) := by decide +kernel
theorem dX4_pairAll_0 : decode cX4_pairAll 0 = .ok (.iconst 0, 1) := by decide +kernel
theorem dX4_pairAll_1 : decode cX4_pairAll 1 = .ok (.istore_n 2, 1) := by decide +kernel
theorem dX4_pairAll_2 : decode cX4_pairAll 2 = .ok (.iload_n 2, 1) := by decide +kernel
theorem dX4_pairAll_3 : decode cX4_pairAll 3 = .ok (.bipush 8, 2) := by decide +kernel
theorem dX4_pairAll_5 : decode cX4_pairAll 5 = .ok (.if_icmp .ge 16, 3) := by decide +kernel
theorem dX4_pairAll_8 : decode cX4_pairAll 8 = .ok (.aload_n 0, 1) := by decide +kernel
theorem dX4_pairAll_9 : decode cX4_pairAll 9 = .ok (.getfield 9, 3) := by decide +kernel
theorem dX4_pairAll_12 : decode cX4_pairAll 12 = .ok (.iload_n 2, 1) := by decide +kernel
theorem dX4_pairAll_13 : decode cX4_pairAll 13 = .ok (.iconst (-1), 1) := by decide +kernel
theorem dX4_pairAll_14 : decode cX4_pairAll 14 = .ok (.iastore, 1) := by decide +kernel
theorem dX4_pairAll_15 : decode cX4_pairAll 15 = .ok (.iinc 2 1, 3) := by decide +kernel
theorem dX4_pairAll_18 : decode cX4_pairAll 18 = .ok (.goto (-16), 3) := by decide +kernel
theorem dX4_pairAll_21 : decode cX4_pairAll 21 = .ok (.aload_n 1, 1) := by decide +kernel
theorem dX4_pairAll_22 : decode cX4_pairAll 22 = .ok (.invokevirtual 15, 3) := by decide +kernel
theorem dX4_pairAll_25 : decode cX4_pairAll 25 = .ok (.istore_n 2, 1) := by decide +kernel
theorem dX4_pairAll_26 : decode cX4_pairAll 26 = .ok (.iconst 0, 1) := by decide +kernel
theorem dX4_pairAll_27 : decode cX4_pairAll 27 = .ok (.istore_n 3, 1) := by decide +kernel
theorem dX4_pairAll_28 : decode cX4_pairAll 28 = .ok (.iload_n 3, 1) := by decide +kernel
theorem dX4_pairAll_29 : decode cX4_pairAll 29 = .ok (.bipush 8, 2) := by decide +kernel
theorem dX4_pairAll_31 : decode cX4_pairAll 31 = .ok (.if_icmp .ge 59, 3) := by decide +kernel
theorem dX4_pairAll_34 : decode cX4_pairAll 34 = .ok (.aload_n 1, 1) := by decide +kernel
theorem dX4_pairAll_35 : decode cX4_pairAll 35 = .ok (.iload_n 2, 1) := by decide +kernel
theorem dX4_pairAll_36 : decode cX4_pairAll 36 = .ok (.invokestatic 21, 3) := by decide +kernel
theorem dX4_pairAll_39 : decode cX4_pairAll 39 = .ok (.istore 4, 2) := by decide +kernel
theorem dX4_pairAll_41 : decode cX4_pairAll 41 = .ok (.iload 4, 2) := by decide +kernel
theorem dX4_pairAll_43 : decode cX4_pairAll 43 = .ok (.iconst (-1), 1) := by decide +kernel
theorem dX4_pairAll_44 : decode cX4_pairAll 44 = .ok (.if_icmp .ne 5, 3) := by decide +kernel
theorem dX4_pairAll_47 : decode cX4_pairAll 47 = .ok (.iload_n 3, 1) := by decide +kernel
theorem dX4_pairAll_48 : decode cX4_pairAll 48 = .ok (.ireturn, 1) := by decide +kernel
theorem dX4_pairAll_49 : decode cX4_pairAll 49 = .ok (.iload 4, 2) := by decide +kernel
theorem dX4_pairAll_51 : decode cX4_pairAll 51 = .ok (.bipush 8, 2) := by decide +kernel
theorem dX4_pairAll_53 : decode cX4_pairAll 53 = .ok (.idiv, 1) := by decide +kernel
theorem dX4_pairAll_54 : decode cX4_pairAll 54 = .ok (.istore 5, 2) := by decide +kernel
theorem dX4_pairAll_56 : decode cX4_pairAll 56 = .ok (.iload 4, 2) := by decide +kernel
theorem dX4_pairAll_58 : decode cX4_pairAll 58 = .ok (.bipush 8, 2) := by decide +kernel
theorem dX4_pairAll_60 : decode cX4_pairAll 60 = .ok (.irem, 1) := by decide +kernel
theorem dX4_pairAll_61 : decode cX4_pairAll 61 = .ok (.istore 6, 2) := by decide +kernel
theorem dX4_pairAll_63 : decode cX4_pairAll 63 = .ok (.aload_n 0, 1) := by decide +kernel
theorem dX4_pairAll_64 : decode cX4_pairAll 64 = .ok (.getfield 9, 3) := by decide +kernel
theorem dX4_pairAll_67 : decode cX4_pairAll 67 = .ok (.iload 5, 2) := by decide +kernel
theorem dX4_pairAll_69 : decode cX4_pairAll 69 = .ok (.iload 6, 2) := by decide +kernel
theorem dX4_pairAll_71 : decode cX4_pairAll 71 = .ok (.iastore, 1) := by decide +kernel
theorem dX4_pairAll_72 : decode cX4_pairAll 72 = .ok (.iload_n 2, 1) := by decide +kernel
theorem dX4_pairAll_73 : decode cX4_pairAll 73 = .ok (.iconst 1, 1) := by decide +kernel
theorem dX4_pairAll_74 : decode cX4_pairAll 74 = .ok (.iload 5, 2) := by decide +kernel
theorem dX4_pairAll_76 : decode cX4_pairAll 76 = .ok (.ishl, 1) := by decide +kernel
theorem dX4_pairAll_77 : decode cX4_pairAll 77 = .ok (.iconst 1, 1) := by decide +kernel
theorem dX4_pairAll_78 : decode cX4_pairAll 78 = .ok (.iload 6, 2) := by decide +kernel
theorem dX4_pairAll_80 : decode cX4_pairAll 80 = .ok (.ishl, 1) := by decide +kernel
theorem dX4_pairAll_81 : decode cX4_pairAll 81 = .ok (.ior, 1) := by decide +kernel
theorem dX4_pairAll_82 : decode cX4_pairAll 82 = .ok (.ior, 1) := by decide +kernel
theorem dX4_pairAll_83 : decode cX4_pairAll 83 = .ok (.istore_n 2, 1) := by decide +kernel
theorem dX4_pairAll_84 : decode cX4_pairAll 84 = .ok (.iinc 3 1, 3) := by decide +kernel
theorem dX4_pairAll_87 : decode cX4_pairAll 87 = .ok (.goto (-59), 3) := by decide +kernel
theorem dX4_pairAll_90 : decode cX4_pairAll 90 = .ok (.bipush 8, 2) := by decide +kernel
theorem dX4_pairAll_92 : decode cX4_pairAll 92 = .ok (.ireturn, 1) := by decide +kernel
theorem dX4_bestPair_0 : decode cX4_bestPair 0 = .ok (.iconst (-1), 1) := by decide +kernel
theorem dX4_bestPair_1 : decode cX4_bestPair 1 = .ok (.istore_n 2, 1) := by decide +kernel
theorem dX4_bestPair_2 : decode cX4_bestPair 2 = .ok (.ldc 25, 2) := by decide +kernel
theorem dX4_bestPair_4 : decode cX4_bestPair 4 = .ok (.istore_n 3, 1) := by decide +kernel
theorem dX4_bestPair_5 : decode cX4_bestPair 5 = .ok (.iconst 0, 1) := by decide +kernel
theorem dX4_bestPair_6 : decode cX4_bestPair 6 = .ok (.istore 4, 2) := by decide +kernel
theorem dX4_bestPair_8 : decode cX4_bestPair 8 = .ok (.iload 4, 2) := by decide +kernel
theorem dX4_bestPair_10 : decode cX4_bestPair 10 = .ok (.aload_n 0, 1) := by decide +kernel
theorem dX4_bestPair_11 : decode cX4_bestPair 11 = .ok (.getfield 26, 3) := by decide +kernel
theorem dX4_bestPair_14 : decode cX4_bestPair 14 = .ok (.getfield 30, 3) := by decide +kernel
theorem dX4_bestPair_17 : decode cX4_bestPair 17 = .ok (.if_icmp .ge 149, 3) := by decide +kernel
theorem dX4_bestPair_20 : decode cX4_bestPair 20 = .ok (.iconst 0, 1) := by decide +kernel
theorem dX4_bestPair_21 : decode cX4_bestPair 21 = .ok (.istore 5, 2) := by decide +kernel
theorem dX4_bestPair_23 : decode cX4_bestPair 23 = .ok (.iload 5, 2) := by decide +kernel
theorem dX4_bestPair_25 : decode cX4_bestPair 25 = .ok (.aload_n 0, 1) := by decide +kernel
theorem dX4_bestPair_26 : decode cX4_bestPair 26 = .ok (.getfield 26, 3) := by decide +kernel
theorem dX4_bestPair_29 : decode cX4_bestPair 29 = .ok (.getfield 30, 3) := by decide +kernel
theorem dX4_bestPair_32 : decode cX4_bestPair 32 = .ok (.if_icmp .ge 128, 3) := by decide +kernel
theorem dX4_bestPair_35 : decode cX4_bestPair 35 = .ok (.iload_n 1, 1) := by decide +kernel
theorem dX4_bestPair_36 : decode cX4_bestPair 36 = .ok (.iload 4, 2) := by decide +kernel
theorem dX4_bestPair_38 : decode cX4_bestPair 38 = .ok (.ishr, 1) := by decide +kernel
theorem dX4_bestPair_39 : decode cX4_bestPair 39 = .ok (.iconst 1, 1) := by decide +kernel
theorem dX4_bestPair_40 : decode cX4_bestPair 40 = .ok (.iand, 1) := by decide +kernel
theorem dX4_bestPair_41 : decode cX4_bestPair 41 = .ok (.ifCond .ne 16, 3) := by decide +kernel
theorem dX4_bestPair_44 : decode cX4_bestPair 44 = .ok (.iload_n 1, 1) := by decide +kernel
theorem dX4_bestPair_45 : decode cX4_bestPair 45 = .ok (.iload 5, 2) := by decide +kernel
theorem dX4_bestPair_47 : decode cX4_bestPair 47 = .ok (.ishr, 1) := by decide +kernel
theorem dX4_bestPair_48 : decode cX4_bestPair 48 = .ok (.iconst 1, 1) := by decide +kernel
theorem dX4_bestPair_49 : decode cX4_bestPair 49 = .ok (.iand, 1) := by decide +kernel
theorem dX4_bestPair_50 : decode cX4_bestPair 50 = .ok (.ifCond .ne 7, 3) := by decide +kernel
theorem dX4_bestPair_53 : decode cX4_bestPair 53 = .ok (.iconst 1, 1) := by decide +kernel
theorem dX4_bestPair_54 : decode cX4_bestPair 54 = .ok (.goto 4, 3) := by decide +kernel
theorem dX4_bestPair_57 : decode cX4_bestPair 57 = .ok (.iconst 0, 1) := by decide +kernel
theorem dX4_bestPair_58 : decode cX4_bestPair 58 = .ok (.istore 6, 2) := by decide +kernel
theorem dX4_bestPair_60 : decode cX4_bestPair 60 = .ok (.iload 6, 2) := by decide +kernel
theorem dX4_bestPair_62 : decode cX4_bestPair 62 = .ok (.ifCond .eq 92, 3) := by decide +kernel
theorem dX4_bestPair_65 : decode cX4_bestPair 65 = .ok (.aload_n 0, 1) := by decide +kernel
theorem dX4_bestPair_66 : decode cX4_bestPair 66 = .ok (.getfield 26, 3) := by decide +kernel
theorem dX4_bestPair_69 : decode cX4_bestPair 69 = .ok (.iload 4, 2) := by decide +kernel
theorem dX4_bestPair_71 : decode cX4_bestPair 71 = .ok (.invokevirtual 36, 3) := by decide +kernel
theorem dX4_bestPair_74 : decode cX4_bestPair 74 = .ok (.ifCond .eq 80, 3) := by decide +kernel
theorem dX4_bestPair_77 : decode cX4_bestPair 77 = .ok (.aload_n 0, 1) := by decide +kernel
theorem dX4_bestPair_78 : decode cX4_bestPair 78 = .ok (.getfield 26, 3) := by decide +kernel
theorem dX4_bestPair_81 : decode cX4_bestPair 81 = .ok (.iload 5, 2) := by decide +kernel
theorem dX4_bestPair_83 : decode cX4_bestPair 83 = .ok (.invokevirtual 40, 3) := by decide +kernel
theorem dX4_bestPair_86 : decode cX4_bestPair 86 = .ok (.ifCond .ne 6, 3) := by decide +kernel
theorem dX4_bestPair_89 : decode cX4_bestPair 89 = .ok (.goto 65, 3) := by decide +kernel
theorem dX4_bestPair_92 : decode cX4_bestPair 92 = .ok (.aload_n 0, 1) := by decide +kernel
theorem dX4_bestPair_93 : decode cX4_bestPair 93 = .ok (.iload 4, 2) := by decide +kernel
theorem dX4_bestPair_95 : decode cX4_bestPair 95 = .ok (.iload 5, 2) := by decide +kernel
theorem dX4_bestPair_97 : decode cX4_bestPair 97 = .ok (.invokevirtual 43, 3) := by decide +kernel
theorem dX4_bestPair_100 : decode cX4_bestPair 100 = .ok (.istore 7, 2) := by decide +kernel
theorem dX4_bestPair_102 : decode cX4_bestPair 102 = .ok (.iload 7, 2) := by decide +kernel
theorem dX4_bestPair_104 : decode cX4_bestPair 104 = .ok (.aload_n 0, 1) := by decide +kernel
theorem dX4_bestPair_105 : decode cX4_bestPair 105 = .ok (.iload 4, 2) := by decide +kernel
theorem dX4_bestPair_107 : decode cX4_bestPair 107 = .ok (.invokevirtual 47, 3) := by decide +kernel
theorem dX4_bestPair_110 : decode cX4_bestPair 110 = .ok (.if_icmp .le 18, 3) := by decide +kernel
theorem dX4_bestPair_113 : decode cX4_bestPair 113 = .ok (.iload 7, 2) := by decide +kernel
theorem dX4_bestPair_115 : decode cX4_bestPair 115 = .ok (.aload_n 0, 1) := by decide +kernel
theorem dX4_bestPair_116 : decode cX4_bestPair 116 = .ok (.iload 5, 2) := by decide +kernel
theorem dX4_bestPair_118 : decode cX4_bestPair 118 = .ok (.invokevirtual 47, 3) := by decide +kernel
theorem dX4_bestPair_121 : decode cX4_bestPair 121 = .ok (.if_icmp .le 7, 3) := by decide +kernel
theorem dX4_bestPair_124 : decode cX4_bestPair 124 = .ok (.iconst 1, 1) := by decide +kernel
theorem dX4_bestPair_125 : decode cX4_bestPair 125 = .ok (.goto 4, 3) := by decide +kernel
theorem dX4_bestPair_128 : decode cX4_bestPair 128 = .ok (.iconst 0, 1) := by decide +kernel
theorem dX4_bestPair_129 : decode cX4_bestPair 129 = .ok (.istore 8, 2) := by decide +kernel
theorem dX4_bestPair_131 : decode cX4_bestPair 131 = .ok (.iload 8, 2) := by decide +kernel
theorem dX4_bestPair_133 : decode cX4_bestPair 133 = .ok (.ifCond .eq 21, 3) := by decide +kernel
theorem dX4_bestPair_136 : decode cX4_bestPair 136 = .ok (.iload 7, 2) := by decide +kernel
theorem dX4_bestPair_138 : decode cX4_bestPair 138 = .ok (.iload_n 3, 1) := by decide +kernel
theorem dX4_bestPair_139 : decode cX4_bestPair 139 = .ok (.if_icmp .le 15, 3) := by decide +kernel
theorem dX4_bestPair_142 : decode cX4_bestPair 142 = .ok (.iload 4, 2) := by decide +kernel
theorem dX4_bestPair_144 : decode cX4_bestPair 144 = .ok (.bipush 8, 2) := by decide +kernel
theorem dX4_bestPair_146 : decode cX4_bestPair 146 = .ok (.imul, 1) := by decide +kernel
theorem dX4_bestPair_147 : decode cX4_bestPair 147 = .ok (.iload 5, 2) := by decide +kernel
theorem dX4_bestPair_149 : decode cX4_bestPair 149 = .ok (.iadd, 1) := by decide +kernel
theorem dX4_bestPair_150 : decode cX4_bestPair 150 = .ok (.istore_n 2, 1) := by decide +kernel
theorem dX4_bestPair_151 : decode cX4_bestPair 151 = .ok (.iload 7, 2) := by decide +kernel
theorem dX4_bestPair_153 : decode cX4_bestPair 153 = .ok (.istore_n 3, 1) := by decide +kernel
theorem dX4_bestPair_154 : decode cX4_bestPair 154 = .ok (.iinc 5 1, 3) := by decide +kernel
theorem dX4_bestPair_157 : decode cX4_bestPair 157 = .ok (.goto (-134), 3) := by decide +kernel
theorem dX4_bestPair_160 : decode cX4_bestPair 160 = .ok (.iinc 4 1, 3) := by decide +kernel
theorem dX4_bestPair_163 : decode cX4_bestPair 163 = .ok (.goto (-155), 3) := by decide +kernel
theorem dX4_bestPair_166 : decode cX4_bestPair 166 = .ok (.iload_n 2, 1) := by decide +kernel
theorem dX4_bestPair_167 : decode cX4_bestPair 167 = .ok (.ireturn, 1) := by decide +kernel
