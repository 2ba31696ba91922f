theorem dX10_takes_112 : decode cX10_takes 112 = .ok (.istore 6, 2) := by decide +kernel
theorem dX10_takes_114 : decode cX10_takes 114 = .ok (.iload_n 3, 1) := by decide +kernel
theorem dX10_takes_115 : decode cX10_takes 115 = .ok (.iload 6, 2) := by decide +kernel
theorem dX10_takes_117 : decode cX10_takes 117 = .ok (.ifCond .eq 8, 3) := by decide +kernel
theorem dX10_takes_120 : decode cX10_takes 120 = .ok (.iload 5, 2) := by decide +kernel
theorem dX10_takes_122 : decode cX10_takes 122 = .ok (.goto 5, 3) := by decide +kernel
theorem dX10_takes_125 : decode cX10_takes 125 = .ok (.ldc 248, 2) := by decide +kernel
theorem dX10_takes_127 : decode cX10_takes 127 = .ok (.iadd, 1) := by decide +kernel
theorem dX10_takes_128 : decode cX10_takes 128 = .ok (.istore_n 3, 1) := by decide +kernel
theorem dX10_takes_129 : decode cX10_takes 129 = .ok (.aload_n 0, 1) := by decide +kernel
theorem dX10_takes_130 : decode cX10_takes 130 = .ok (.getfield 19, 3) := by decide +kernel
theorem dX10_takes_133 : decode cX10_takes 133 = .ok (.iconst 0, 1) := by decide +kernel
theorem dX10_takes_134 : decode cX10_takes 134 = .ok (.iconst 4, 1) := by decide +kernel
theorem dX10_takes_135 : decode cX10_takes 135 = .ok (.iload_n 1, 1) := by decide +kernel
theorem dX10_takes_136 : decode cX10_takes 136 = .ok (.imul, 1) := by decide +kernel
theorem dX10_takes_137 : decode cX10_takes 137 = .ok (.iadd, 1) := by decide +kernel
theorem dX10_takes_138 : decode cX10_takes 138 = .ok (.iload 4, 2) := by decide +kernel
theorem dX10_takes_140 : decode cX10_takes 140 = .ok (.iadd, 1) := by decide +kernel
theorem dX10_takes_141 : decode cX10_takes 141 = .ok (.aload_n 0, 1) := by decide +kernel
theorem dX10_takes_142 : decode cX10_takes 142 = .ok (.getfield 7, 3) := by decide +kernel
theorem dX10_takes_145 : decode cX10_takes 145 = .ok (.bipush 9, 2) := by decide +kernel
theorem dX10_takes_147 : decode cX10_takes 147 = .ok (.iload 4, 2) := by decide +kernel
theorem dX10_takes_149 : decode cX10_takes 149 = .ok (.iadd, 1) := by decide +kernel
theorem dX10_takes_150 : decode cX10_takes 150 = .ok (.iaload, 1) := by decide +kernel
theorem dX10_takes_151 : decode cX10_takes 151 = .ok (.iastore, 1) := by decide +kernel
theorem dX10_takes_152 : decode cX10_takes 152 = .ok (.iinc 4 1, 3) := by decide +kernel
theorem dX10_takes_155 : decode cX10_takes 155 = .ok (.goto (-146), 3) := by decide +kernel
theorem dX10_takes_158 : decode cX10_takes 158 = .ok (.iload_n 3, 1) := by decide +kernel
theorem dX10_takes_159 : decode cX10_takes 159 = .ok (.ireturn, 1) := by decide +kernel
theorem dX10_least_0 : decode cX10_least 0 = .ok (.aload_n 0, 1) := by decide +kernel
theorem dX10_least_1 : decode cX10_least 1 = .ok (.iload_n 1, 1) := by decide +kernel
theorem dX10_least_2 : decode cX10_least 2 = .ok (.invokevirtual 139, 3) := by decide +kernel
theorem dX10_least_5 : decode cX10_least 5 = .ok (.ifCond .ne 6, 3) := by decide +kernel
theorem dX10_least_8 : decode cX10_least 8 = .ok (.ldc 175, 2) := by decide +kernel
theorem dX10_least_10 : decode cX10_least 10 = .ok (.ireturn, 1) := by decide +kernel
theorem dX10_least_11 : decode cX10_least 11 = .ok (.iload_n 2, 1) := by decide +kernel
theorem dX10_least_12 : decode cX10_least 12 = .ok (.i2l, 1) := by decide +kernel
theorem dX10_least_13 : decode cX10_least 13 = .ok (.lconst 1, 1) := by decide +kernel
theorem dX10_least_14 : decode cX10_least 14 = .ok (.ldc2_w 249, 3) := by decide +kernel
theorem dX10_least_17 : decode cX10_least 17 = .ok (.invokestatic 65, 3) := by decide +kernel
theorem dX10_least_20 : decode cX10_least 20 = .ok (.ifCond .eq 13, 3) := by decide +kernel
theorem dX10_least_23 : decode cX10_least 23 = .ok (.iload_n 3, 1) := by decide +kernel
theorem dX10_least_24 : decode cX10_least 24 = .ok (.i2l, 1) := by decide +kernel
theorem dX10_least_25 : decode cX10_least 25 = .ok (.lconst 0, 1) := by decide +kernel
theorem dX10_least_26 : decode cX10_least 26 = .ok (.lconst 1, 1) := by decide +kernel
theorem dX10_least_27 : decode cX10_least 27 = .ok (.invokestatic 65, 3) := by decide +kernel
theorem dX10_least_30 : decode cX10_least 30 = .ok (.ifCond .ne 6, 3) := by decide +kernel
theorem dX10_least_33 : decode cX10_least 33 = .ok (.ldc 80, 2) := by decide +kernel
theorem dX10_least_35 : decode cX10_least 35 = .ok (.ireturn, 1) := by decide +kernel
theorem dX10_least_36 : decode cX10_least 36 = .ok (.aload_n 0, 1) := by decide +kernel
theorem dX10_least_37 : decode cX10_least 37 = .ok (.iload_n 1, 1) := by decide +kernel
theorem dX10_least_38 : decode cX10_least 38 = .ok (.invokevirtual 185, 3) := by decide +kernel
theorem dX10_least_41 : decode cX10_least 41 = .ok (.ifCond .eq 6, 3) := by decide +kernel
theorem dX10_least_44 : decode cX10_least 44 = .ok (.ldc 193, 2) := by decide +kernel
theorem dX10_least_46 : decode cX10_least 46 = .ok (.ireturn, 1) := by decide +kernel
theorem dX10_least_47 : decode cX10_least 47 = .ok (.iconst (-1), 1) := by decide +kernel
theorem dX10_least_48 : decode cX10_least 48 = .ok (.istore 4, 2) := by decide +kernel
theorem dX10_least_50 : decode cX10_least 50 = .ok (.ldc 248, 2) := by decide +kernel
theorem dX10_least_52 : decode cX10_least 52 = .ok (.istore 5, 2) := by decide +kernel
theorem dX10_least_54 : decode cX10_least 54 = .ok (.iconst 0, 1) := by decide +kernel
theorem dX10_least_55 : decode cX10_least 55 = .ok (.istore 6, 2) := by decide +kernel
theorem dX10_least_57 : decode cX10_least 57 = .ok (.iload 6, 2) := by decide +kernel
theorem dX10_least_59 : decode cX10_least 59 = .ok (.iconst 1, 1) := by decide +kernel
theorem dX10_least_60 : decode cX10_least 60 = .ok (.aload_n 0, 1) := by decide +kernel
theorem dX10_least_61 : decode cX10_least 61 = .ok (.getfield 7, 3) := by decide +kernel
theorem dX10_least_64 : decode cX10_least 64 = .ok (.iconst 3, 1) := by decide +kernel
theorem dX10_least_65 : decode cX10_least 65 = .ok (.iaload, 1) := by decide +kernel
theorem dX10_least_66 : decode cX10_least 66 = .ok (.ishl, 1) := by decide +kernel
theorem dX10_least_67 : decode cX10_least 67 = .ok (.if_icmp .ge 46, 3) := by decide +kernel
theorem dX10_least_70 : decode cX10_least 70 = .ok (.aload_n 0, 1) := by decide +kernel
theorem dX10_least_71 : decode cX10_least 71 = .ok (.iload_n 1, 1) := by decide +kernel
theorem dX10_least_72 : decode cX10_least 72 = .ok (.iload 6, 2) := by decide +kernel
theorem dX10_least_74 : decode cX10_least 74 = .ok (.invokevirtual 251, 3) := by decide +kernel
theorem dX10_least_77 : decode cX10_least 77 = .ok (.istore 7, 2) := by decide +kernel
theorem dX10_least_79 : decode cX10_least 79 = .ok (.iload 7, 2) := by decide +kernel
theorem dX10_least_81 : decode cX10_least 81 = .ok (.iload 5, 2) := by decide +kernel
theorem dX10_least_83 : decode cX10_least 83 = .ok (.if_icmp .ge 24, 3) := by decide +kernel
theorem dX10_least_86 : decode cX10_least 86 = .ok (.aload_n 0, 1) := by decide +kernel
theorem dX10_least_87 : decode cX10_least 87 = .ok (.aload_n 0, 1) := by decide +kernel
theorem dX10_least_88 : decode cX10_least 88 = .ok (.getfield 19, 3) := by decide +kernel
theorem dX10_least_91 : decode cX10_least 91 = .ok (.iload_n 1, 1) := by decide +kernel
theorem dX10_least_92 : decode cX10_least 92 = .ok (.invokevirtual 179, 3) := by decide +kernel
theorem dX10_least_95 : decode cX10_least 95 = .ok (.iload_n 2, 1) := by decide +kernel
theorem dX10_least_96 : decode cX10_least 96 = .ok (.if_icmp .lt 11, 3) := by decide +kernel
theorem dX10_least_99 : decode cX10_least 99 = .ok (.iload 7, 2) := by decide +kernel
theorem dX10_least_101 : decode cX10_least 101 = .ok (.istore 5, 2) := by decide +kernel
theorem dX10_least_103 : decode cX10_least 103 = .ok (.iload 6, 2) := by decide +kernel
theorem dX10_least_105 : decode cX10_least 105 = .ok (.istore 4, 2) := by decide +kernel
theorem dX10_least_107 : decode cX10_least 107 = .ok (.iinc 6 1, 3) := by decide +kernel
theorem dX10_least_110 : decode cX10_least 110 = .ok (.goto (-53), 3) := by decide +kernel
theorem dX10_least_113 : decode cX10_least 113 = .ok (.iload_n 3, 1) := by decide +kernel
theorem dX10_least_114 : decode cX10_least 114 = .ok (.ifCond .eq 9, 3) := by decide +kernel
theorem dX10_least_117 : decode cX10_least 117 = .ok (.iload 4, 2) := by decide +kernel
theorem dX10_least_119 : decode cX10_least 119 = .ok (.iconst (-1), 1) := by decide +kernel
theorem dX10_least_120 : decode cX10_least 120 = .ok (.if_icmp .ne 8, 3) := by decide +kernel
theorem dX10_least_123 : decode cX10_least 123 = .ok (.iload 4, 2) := by decide +kernel
theorem dX10_least_125 : decode cX10_least 125 = .ok (.goto 5, 3) := by decide +kernel
theorem dX10_least_128 : decode cX10_least 128 = .ok (.iload 5, 2) := by decide +kernel
theorem dX10_least_130 : decode cX10_least 130 = .ok (.ireturn, 1) := by decide +kernel
theorem dX10_paysBy_0 : decode cX10_paysBy 0 = .ok (.aload_n 0, 1) := by decide +kernel
theorem dX10_paysBy_1 : decode cX10_paysBy 1 = .ok (.iload_n 2, 1) := by decide +kernel
theorem dX10_paysBy_2 : decode cX10_paysBy 2 = .ok (.invokevirtual 154, 3) := by decide +kernel
theorem dX10_paysBy_5 : decode cX10_paysBy 5 = .ok (.istore 4, 2) := by decide +kernel
theorem dX10_paysBy_7 : decode cX10_paysBy 7 = .ok (.iload 4, 2) := by decide +kernel
theorem dX10_paysBy_9 : decode cX10_paysBy 9 = .ok (.i2l, 1) := by decide +kernel
theorem dX10_paysBy_10 : decode cX10_paysBy 10 = .ok (.aload_n 0, 1) := by decide +kernel
theorem dX10_paysBy_11 : decode cX10_paysBy 11 = .ok (.getfield 7, 3) := by decide +kernel
theorem dX10_paysBy_14 : decode cX10_paysBy 14 = .ok (.bipush 9, 2) := by decide +kernel
theorem dX10_paysBy_16 : decode cX10_paysBy 16 = .ok (.iload_n 3, 1) := by decide +kernel
theorem dX10_paysBy_17 : decode cX10_paysBy 17 = .ok (.iadd, 1) := by decide +kernel
theorem dX10_paysBy_18 : decode cX10_paysBy 18 = .ok (.iaload, 1) := by decide +kernel
theorem dX10_paysBy_19 : decode cX10_paysBy 19 = .ok (.i2l, 1) := by decide +kernel
theorem dX10_paysBy_20 : decode cX10_paysBy 20 = .ok (.aload_n 0, 1) := by decide +kernel
theorem dX10_paysBy_21 : decode cX10_paysBy 21 = .ok (.getfield 7, 3) := by decide +kernel
theorem dX10_paysBy_24 : decode cX10_paysBy 24 = .ok (.bipush 13, 2) := by decide +kernel
theorem dX10_paysBy_26 : decode cX10_paysBy 26 = .ok (.iload_n 3, 1) := by decide +kernel
theorem dX10_paysBy_27 : decode cX10_paysBy 27 = .ok (.iadd, 1) := by decide +kernel
theorem dX10_paysBy_28 : decode cX10_paysBy 28 = .ok (.iaload, 1) := by decide +kernel
theorem dX10_paysBy_29 : decode cX10_paysBy 29 = .ok (.i2l, 1) := by decide +kernel
theorem dX10_paysBy_30 : decode cX10_paysBy 30 = .ok (.invokestatic 65, 3) := by decide +kernel
theorem dX10_paysBy_33 : decode cX10_paysBy 33 = .ok (.ifCond .eq 17, 3) := by decide +kernel
theorem dX10_paysBy_36 : decode cX10_paysBy 36 = .ok (.iload_n 1, 1) := by decide +kernel
theorem dX10_paysBy_37 : decode cX10_paysBy 37 = .ok (.iload_n 2, 1) := by decide +kernel
theorem dX10_paysBy_38 : decode cX10_paysBy 38 = .ok (.isub, 1) := by decide +kernel
theorem dX10_paysBy_39 : decode cX10_paysBy 39 = .ok (.aload_n 0, 1) := by decide +kernel
theorem dX10_paysBy_40 : decode cX10_paysBy 40 = .ok (.getfield 48, 3) := by decide +kernel
theorem dX10_paysBy_43 : decode cX10_paysBy 43 = .ok (.iload 4, 2) := by decide +kernel
theorem dX10_paysBy_45 : decode cX10_paysBy 45 = .ok (.iaload, 1) := by decide +kernel
theorem dX10_paysBy_46 : decode cX10_paysBy 46 = .ok (.iadd, 1) := by decide +kernel
theorem dX10_paysBy_47 : decode cX10_paysBy 47 = .ok (.goto 5, 3) := by decide +kernel
theorem dX10_paysBy_50 : decode cX10_paysBy 50 = .ok (.ldc 248, 2) := by decide +kernel
theorem dX10_paysBy_52 : decode cX10_paysBy 52 = .ok (.ireturn, 1) := by decide +kernel
theorem dX10_plan_0 : decode cX10_plan 0 = .ok (.aload_n 0, 1) := by decide +kernel
theorem dX10_plan_1 : decode cX10_plan 1 = .ok (.iload_n 1, 1) := by decide +kernel
theorem dX10_plan_2 : decode cX10_plan 2 = .ok (.invokevirtual 139, 3) := by decide +kernel
theorem dX10_plan_5 : decode cX10_plan 5 = .ok (.ifCond .eq 11, 3) := by decide +kernel
theorem dX10_plan_8 : decode cX10_plan 8 = .ok (.aload_n 0, 1) := by decide +kernel
theorem dX10_plan_9 : decode cX10_plan 9 = .ok (.iload_n 2, 1) := by decide +kernel
theorem dX10_plan_10 : decode cX10_plan 10 = .ok (.invokevirtual 172, 3) := by decide +kernel
theorem dX10_plan_13 : decode cX10_plan 13 = .ok (.ifCond .ne 6, 3) := by decide +kernel
theorem dX10_plan_16 : decode cX10_plan 16 = .ok (.ldc 175, 2) := by decide +kernel
theorem dX10_plan_18 : decode cX10_plan 18 = .ok (.ireturn, 1) := by decide +kernel
theorem dX10_plan_19 : decode cX10_plan 19 = .ok (.iload_n 3, 1) := by decide +kernel
theorem dX10_plan_20 : decode cX10_plan 20 = .ok (.i2l, 1) := by decide +kernel
theorem dX10_plan_21 : decode cX10_plan 21 = .ok (.lconst 1, 1) := by decide +kernel
theorem dX10_plan_22 : decode cX10_plan 22 = .ok (.ldc2_w 254, 3) := by decide +kernel
theorem dX10_plan_25 : decode cX10_plan 25 = .ok (.invokestatic 65, 3) := by decide +kernel
theorem dX10_plan_28 : decode cX10_plan 28 = .ok (.ifCond .eq 14, 3) := by decide +kernel
theorem dX10_plan_31 : decode cX10_plan 31 = .ok (.iload 4, 2) := by decide +kernel
theorem dX10_plan_33 : decode cX10_plan 33 = .ok (.i2l, 1) := by decide +kernel
theorem dX10_plan_34 : decode cX10_plan 34 = .ok (.lconst 0, 1) := by decide +kernel
theorem dX10_plan_35 : decode cX10_plan 35 = .ok (.lconst 1, 1) := by decide +kernel
theorem dX10_plan_36 : decode cX10_plan 36 = .ok (.invokestatic 65, 3) := by decide +kernel
theorem dX10_plan_39 : decode cX10_plan 39 = .ok (.ifCond .ne 6, 3) := by decide +kernel
theorem dX10_plan_42 : decode cX10_plan 42 = .ok (.ldc 80, 2) := by decide +kernel
theorem dX10_plan_44 : decode cX10_plan 44 = .ok (.ireturn, 1) := by decide +kernel
theorem dX10_plan_45 : decode cX10_plan 45 = .ok (.aload_n 0, 1) := by decide +kernel
theorem dX10_plan_46 : decode cX10_plan 46 = .ok (.getfield 16, 3) := by decide +kernel
theorem dX10_plan_49 : decode cX10_plan 49 = .ok (.bipush 52, 2) := by decide +kernel
theorem dX10_plan_51 : decode cX10_plan 51 = .ok (.iaload, 1) := by decide +kernel
theorem dX10_plan_52 : decode cX10_plan 52 = .ok (.iload_n 2, 1) := by decide +kernel
theorem dX10_plan_53 : decode cX10_plan 53 = .ok (.invokestatic 142, 3) := by decide +kernel
theorem dX10_plan_56 : decode cX10_plan 56 = .ok (.ifCond .eq 5, 3) := by decide +kernel
theorem dX10_plan_59 : decode cX10_plan 59 = .ok (.iconst (-1), 1) := by decide +kernel
theorem dX10_plan_60 : decode cX10_plan 60 = .ok (.ireturn, 1) := by decide +kernel
theorem dX10_plan_61 : decode cX10_plan 61 = .ok (.iconst 0, 1) := by decide +kernel
theorem dX10_plan_62 : decode cX10_plan 62 = .ok (.istore 5, 2) := by decide +kernel
theorem dX10_plan_64 : decode cX10_plan 64 = .ok (.iload 5, 2) := by decide +kernel
theorem dX10_plan_66 : decode cX10_plan 66 = .ok (.sipush 1000, 3) := by decide +kernel
theorem dX10_plan_69 : decode cX10_plan 69 = .ok (.if_icmp .ge 17, 3) := by decide +kernel
theorem dX10_plan_72 : decode cX10_plan 72 = .ok (.aload_n 0, 1) := by decide +kernel
theorem dX10_plan_73 : decode cX10_plan 73 = .ok (.getfield 48, 3) := by decide +kernel
theorem dX10_plan_76 : decode cX10_plan 76 = .ok (.iload 5, 2) := by decide +kernel
theorem dX10_plan_78 : decode cX10_plan 78 = .ok (.iconst 0, 1) := by decide +kernel
theorem dX10_plan_79 : decode cX10_plan 79 = .ok (.iastore, 1) := by decide +kernel
theorem dX10_plan_80 : decode cX10_plan 80 = .ok (.iinc 5 1, 3) := by decide +kernel
theorem dX10_plan_83 : decode cX10_plan 83 = .ok (.goto (-19), 3) := by decide +kernel
theorem dX10_plan_86 : decode cX10_plan 86 = .ok (.iload_n 3, 1) := by decide +kernel
theorem dX10_plan_87 : decode cX10_plan 87 = .ok (.istore 5, 2) := by decide +kernel
theorem dX10_plan_89 : decode cX10_plan 89 = .ok (.iload 5, 2) := by decide +kernel
theorem dX10_plan_91 : decode cX10_plan 91 = .ok (.iconst 1, 1) := by decide +kernel
theorem dX10_plan_92 : decode cX10_plan 92 = .ok (.if_icmp .le 86, 3) := by decide +kernel
theorem dX10_plan_95 : decode cX10_plan 95 = .ok (.ldc 248, 2) := by decide +kernel
theorem dX10_plan_97 : decode cX10_plan 97 = .ok (.istore 6, 2) := by decide +kernel
theorem dX10_plan_99 : decode cX10_plan 99 = .ok (.iconst 0, 1) := by decide +kernel
theorem dX10_plan_100 : decode cX10_plan 100 = .ok (.istore 7, 2) := by decide +kernel
theorem dX10_plan_102 : decode cX10_plan 102 = .ok (.iload 7, 2) := by decide +kernel
theorem dX10_plan_104 : decode cX10_plan 104 = .ok (.sipush 1000, 3) := by decide +kernel
theorem dX10_plan_107 : decode cX10_plan 107 = .ok (.if_icmp .ge 49, 3) := by decide +kernel
theorem dX10_plan_110 : decode cX10_plan 110 = .ok (.iload 6, 2) := by decide +kernel
theorem dX10_plan_112 : decode cX10_plan 112 = .ok (.aload_n 0, 1) := by decide +kernel
theorem dX10_plan_113 : decode cX10_plan 113 = .ok (.iconst 0, 1) := by decide +kernel
theorem dX10_plan_114 : decode cX10_plan 114 = .ok (.iload 7, 2) := by decide +kernel
theorem dX10_plan_116 : decode cX10_plan 116 = .ok (.iload_n 2, 1) := by decide +kernel
theorem dX10_plan_117 : decode cX10_plan 117 = .ok (.invokevirtual 256, 3) := by decide +kernel
theorem dX10_plan_120 : decode cX10_plan 120 = .ok (.invokestatic 150, 3) := by decide +kernel
theorem dX10_plan_123 : decode cX10_plan 123 = .ok (.istore 6, 2) := by decide +kernel
theorem dX10_plan_125 : decode cX10_plan 125 = .ok (.aload_n 0, 1) := by decide +kernel
theorem dX10_plan_126 : decode cX10_plan 126 = .ok (.getfield 45, 3) := by decide +kernel
theorem dX10_plan_129 : decode cX10_plan 129 = .ok (.iload 7, 2) := by decide +kernel
theorem dX10_plan_131 : decode cX10_plan 131 = .ok (.iload 6, 2) := by decide +kernel
theorem dX10_plan_133 : decode cX10_plan 133 = .ok (.ldc_w 260, 3) := by decide +kernel
theorem dX10_plan_136 : decode cX10_plan 136 = .ok (.if_icmp .lt 8, 3) := by decide +kernel
theorem dX10_plan_139 : decode cX10_plan 139 = .ok (.ldc 248, 2) := by decide +kernel
theorem dX10_plan_141 : decode cX10_plan 141 = .ok (.goto 8, 3) := by decide +kernel
theorem dX10_plan_144 : decode cX10_plan 144 = .ok (.iload 6, 2) := by decide +kernel
theorem dX10_plan_146 : decode cX10_plan 146 = .ok (.iload 7, 2) := by decide +kernel
theorem dX10_plan_148 : decode cX10_plan 148 = .ok (.iadd, 1) := by decide +kernel
theorem dX10_plan_149 : decode cX10_plan 149 = .ok (.iastore, 1) := by decide +kernel
theorem dX10_plan_150 : decode cX10_plan 150 = .ok (.iinc 7 1, 3) := by decide +kernel
theorem dX10_plan_153 : decode cX10_plan 153 = .ok (.goto (-51), 3) := by decide +kernel
theorem dX10_plan_156 : decode cX10_plan 156 = .ok (.aload_n 0, 1) := by decide +kernel
theorem dX10_plan_157 : decode cX10_plan 157 = .ok (.getfield 45, 3) := by decide +kernel
theorem dX10_plan_160 : decode cX10_plan 160 = .ok (.iconst 0, 1) := by decide +kernel
theorem dX10_plan_161 : decode cX10_plan 161 = .ok (.aload_n 0, 1) := by decide +kernel
theorem dX10_plan_162 : decode cX10_plan 162 = .ok (.getfield 48, 3) := by decide +kernel
theorem dX10_plan_165 : decode cX10_plan 165 = .ok (.iconst 0, 1) := by decide +kernel
theorem dX10_plan_166 : decode cX10_plan 166 = .ok (.sipush 1000, 3) := by decide +kernel
theorem dX10_plan_169 : decode cX10_plan 169 = .ok (.invokestatic 57, 3) := by decide +kernel
theorem dX10_plan_172 : decode cX10_plan 172 = .ok (.iinc 5 (-1), 3) := by decide +kernel
theorem dX10_plan_175 : decode cX10_plan 175 = .ok (.goto (-86), 3) := by decide +kernel
theorem dX10_plan_178 : decode cX10_plan 178 = .ok (.aload_n 0, 1) := by decide +kernel
theorem dX10_plan_179 : decode cX10_plan 179 = .ok (.getfield 16, 3) := by decide +kernel
theorem dX10_plan_182 : decode cX10_plan 182 = .ok (.iconst 0, 1) := by decide +kernel
theorem dX10_plan_183 : decode cX10_plan 183 = .ok (.iconst 4, 1) := by decide +kernel
theorem dX10_plan_184 : decode cX10_plan 184 = .ok (.iload_n 1, 1) := by decide +kernel
theorem dX10_plan_185 : decode cX10_plan 185 = .ok (.imul, 1) := by decide +kernel
theorem dX10_plan_186 : decode cX10_plan 186 = .ok (.iadd, 1) := by decide +kernel
theorem dX10_plan_187 : decode cX10_plan 187 = .ok (.iload_n 2, 1) := by decide +kernel
theorem dX10_plan_188 : decode cX10_plan 188 = .ok (.iadd, 1) := by decide +kernel
theorem dX10_plan_189 : decode cX10_plan 189 = .ok (.iaload, 1) := by decide +kernel
theorem dX10_plan_190 : decode cX10_plan 190 = .ok (.istore 5, 2) := by decide +kernel
theorem dX10_plan_192 : decode cX10_plan 192 = .ok (.ldc_w 260, 3) := by decide +kernel
theorem dX10_plan_195 : decode cX10_plan 195 = .ok (.istore 6, 2) := by decide +kernel
theorem dX10_plan_197 : decode cX10_plan 197 = .ok (.iconst (-1), 1) := by decide +kernel
theorem dX10_plan_198 : decode cX10_plan 198 = .ok (.istore 7, 2) := by decide +kernel
theorem dX10_plan_200 : decode cX10_plan 200 = .ok (.iload 5, 2) := by decide +kernel
theorem dX10_plan_202 : decode cX10_plan 202 = .ok (.sipush 999, 3) := by decide +kernel
theorem dX10_plan_205 : decode cX10_plan 205 = .ok (.invokestatic 150, 3) := by decide +kernel
theorem dX10_plan_208 : decode cX10_plan 208 = .ok (.istore 8, 2) := by decide +kernel
theorem dX10_plan_210 : decode cX10_plan 210 = .ok (.iload 8, 2) := by decide +kernel
theorem dX10_plan_212 : decode cX10_plan 212 = .ok (.ifCond .lt 48, 3) := by decide +kernel
theorem dX10_plan_215 : decode cX10_plan 215 = .ok (.aload_n 0, 1) := by decide +kernel
theorem dX10_plan_216 : decode cX10_plan 216 = .ok (.iload 5, 2) := by decide +kernel
theorem dX10_plan_218 : decode cX10_plan 218 = .ok (.iload 8, 2) := by decide +kernel
theorem dX10_plan_220 : decode cX10_plan 220 = .ok (.iload_n 2, 1) := by decide +kernel
theorem dX10_plan_221 : decode cX10_plan 221 = .ok (.invokevirtual 256, 3) := by decide +kernel
theorem dX10_plan_224 : decode cX10_plan 224 = .ok (.istore 9, 2) := by decide +kernel
theorem dX10_plan_226 : decode cX10_plan 226 = .ok (.iload 9, 2) := by decide +kernel
theorem dX10_plan_228 : decode cX10_plan 228 = .ok (.iload 6, 2) := by decide +kernel
theorem dX10_plan_230 : decode cX10_plan 230 = .ok (.if_icmp .ge 11, 3) := by decide +kernel
theorem dX10_plan_233 : decode cX10_plan 233 = .ok (.iload 5, 2) := by decide +kernel
theorem dX10_plan_235 : decode cX10_plan 235 = .ok (.iload 8, 2) := by decide +kernel
theorem dX10_plan_237 : decode cX10_plan 237 = .ok (.isub, 1) := by decide +kernel
theorem dX10_plan_238 : decode cX10_plan 238 = .ok (.goto 5, 3) := by decide +kernel
theorem dX10_plan_241 : decode cX10_plan 241 = .ok (.iload 7, 2) := by decide +kernel
theorem dX10_plan_243 : decode cX10_plan 243 = .ok (.istore 7, 2) := by decide +kernel
theorem dX10_plan_245 : decode cX10_plan 245 = .ok (.iload 6, 2) := by decide +kernel
theorem dX10_plan_247 : decode cX10_plan 247 = .ok (.iload 9, 2) := by decide +kernel
theorem dX10_plan_249 : decode cX10_plan 249 = .ok (.invokestatic 150, 3) := by decide +kernel
theorem dX10_plan_252 : decode cX10_plan 252 = .ok (.istore 6, 2) := by decide +kernel
theorem dX10_plan_254 : decode cX10_plan 254 = .ok (.iinc 8 (-1), 3) := by decide +kernel
theorem dX10_plan_257 : decode cX10_plan 257 = .ok (.goto (-47), 3) := by decide +kernel
theorem dX10_plan_260 : decode cX10_plan 260 = .ok (.iload 7, 2) := by decide +kernel
theorem dX10_plan_262 : decode cX10_plan 262 = .ok (.iconst (-1), 1) := by decide +kernel
theorem dX10_plan_263 : decode cX10_plan 263 = .ok (.if_icmp .ne 7, 3) := by decide +kernel
theorem dX10_plan_266 : decode cX10_plan 266 = .ok (.iconst (-1), 1) := by decide +kernel
theorem dX10_plan_267 : decode cX10_plan 267 = .ok (.goto 15, 3) := by decide +kernel
theorem dX10_plan_270 : decode cX10_plan 270 = .ok (.iload 4, 2) := by decide +kernel
theorem dX10_plan_272 : decode cX10_plan 272 = .ok (.ifCond .ne 8, 3) := by decide +kernel
theorem dX10_plan_275 : decode cX10_plan 275 = .ok (.iload 6, 2) := by decide +kernel
theorem dX10_plan_277 : decode cX10_plan 277 = .ok (.goto 5, 3) := by decide +kernel
theorem dX10_plan_280 : decode cX10_plan 280 = .ok (.iload 7, 2) := by decide +kernel
theorem dX10_plan_282 : decode cX10_plan 282 = .ok (.ireturn, 1) := by decide +kernel
theorem dX10_makesPairs_0 : decode cX10_makesPairs 0 = .ok (.aload_n 0, 1) := by decide +kernel
theorem dX10_makesPairs_1 : decode cX10_makesPairs 1 = .ok (.invokevirtual 166, 3) := by decide +kernel
theorem dX10_makesPairs_4 : decode cX10_makesPairs 4 = .ok (.istore_n 1, 1) := by decide +kernel
theorem dX10_makesPairs_5 : decode cX10_makesPairs 5 = .ok (.iconst 0, 1) := by decide +kernel
theorem dX10_makesPairs_6 : decode cX10_makesPairs 6 = .ok (.istore_n 2, 1) := by decide +kernel
theorem dX10_makesPairs_7 : decode cX10_makesPairs 7 = .ok (.iconst 0, 1) := by decide +kernel
theorem dX10_makesPairs_8 : decode cX10_makesPairs 8 = .ok (.istore_n 3, 1) := by decide +kernel
theorem dX10_makesPairs_9 : decode cX10_makesPairs 9 = .ok (.iload_n 3, 1) := by decide +kernel
theorem dX10_makesPairs_10 : decode cX10_makesPairs 10 = .ok (.bipush 8, 2) := by decide +kernel
theorem dX10_makesPairs_12 : decode cX10_makesPairs 12 = .ok (.if_icmp .ge 16, 3) := by decide +kernel
theorem dX10_makesPairs_15 : decode cX10_makesPairs 15 = .ok (.aload_n 0, 1) := by decide +kernel
theorem dX10_makesPairs_16 : decode cX10_makesPairs 16 = .ok (.getfield 51, 3) := by decide +kernel
theorem dX10_makesPairs_19 : decode cX10_makesPairs 19 = .ok (.iload_n 3, 1) := by decide +kernel
theorem dX10_makesPairs_20 : decode cX10_makesPairs 20 = .ok (.iconst (-1), 1) := by decide +kernel
theorem dX10_makesPairs_21 : decode cX10_makesPairs 21 = .ok (.iastore, 1) := by decide +kernel
theorem dX10_makesPairs_22 : decode cX10_makesPairs 22 = .ok (.iinc 3 1, 3) := by decide +kernel
theorem dX10_makesPairs_25 : decode cX10_makesPairs 25 = .ok (.goto (-16), 3) := by decide +kernel
theorem dX10_makesPairs_28 : decode cX10_makesPairs 28 = .ok (.iconst 1, 1) := by decide +kernel
theorem dX10_makesPairs_29 : decode cX10_makesPairs 29 = .ok (.istore_n 3, 1) := by decide +kernel
theorem dX10_makesPairs_30 : decode cX10_makesPairs 30 = .ok (.iload_n 3, 1) := by decide +kernel
theorem dX10_makesPairs_31 : decode cX10_makesPairs 31 = .ok (.ifCond .eq 223, 3) := by decide +kernel
theorem dX10_makesPairs_34 : decode cX10_makesPairs 34 = .ok (.iconst 0, 1) := by decide +kernel
theorem dX10_makesPairs_35 : decode cX10_makesPairs 35 = .ok (.istore_n 3, 1) := by decide +kernel
theorem dX10_makesPairs_36 : decode cX10_makesPairs 36 = .ok (.ldc_w 261, 3) := by decide +kernel
theorem dX10_makesPairs_39 : decode cX10_makesPairs 39 = .ok (.istore 4, 2) := by decide +kernel
theorem dX10_makesPairs_41 : decode cX10_makesPairs 41 = .ok (.iconst (-1), 1) := by decide +kernel
theorem dX10_makesPairs_42 : decode cX10_makesPairs 42 = .ok (.istore 5, 2) := by decide +kernel
theorem dX10_makesPairs_44 : decode cX10_makesPairs 44 = .ok (.iconst (-1), 1) := by decide +kernel
theorem dX10_makesPairs_45 : decode cX10_makesPairs 45 = .ok (.istore 6, 2) := by decide +kernel
theorem dX10_makesPairs_47 : decode cX10_makesPairs 47 = .ok (.iconst 0, 1) := by decide +kernel
theorem dX10_makesPairs_48 : decode cX10_makesPairs 48 = .ok (.istore 7, 2) := by decide +kernel
theorem dX10_makesPairs_50 : decode cX10_makesPairs 50 = .ok (.iload 7, 2) := by decide +kernel
theorem dX10_makesPairs_52 : decode cX10_makesPairs 52 = .ok (.aload_n 0, 1) := by decide +kernel
theorem dX10_makesPairs_53 : decode cX10_makesPairs 53 = .ok (.getfield 7, 3) := by decide +kernel
theorem dX10_makesPairs_56 : decode cX10_makesPairs 56 = .ok (.iconst 4, 1) := by decide +kernel
theorem dX10_makesPairs_57 : decode cX10_makesPairs 57 = .ok (.iaload, 1) := by decide +kernel
theorem dX10_makesPairs_58 : decode cX10_makesPairs 58 = .ok (.if_icmp .ge 161, 3) := by decide +kernel
theorem dX10_makesPairs_61 : decode cX10_makesPairs 61 = .ok (.iconst 0, 1) := by decide +kernel
theorem dX10_makesPairs_62 : decode cX10_makesPairs 62 = .ok (.istore 8, 2) := by decide +kernel
theorem dX10_makesPairs_64 : decode cX10_makesPairs 64 = .ok (.iload 8, 2) := by decide +kernel
theorem dX10_makesPairs_66 : decode cX10_makesPairs 66 = .ok (.aload_n 0, 1) := by decide +kernel
theorem dX10_makesPairs_67 : decode cX10_makesPairs 67 = .ok (.getfield 7, 3) := by decide +kernel
theorem dX10_makesPairs_70 : decode cX10_makesPairs 70 = .ok (.iconst 4, 1) := by decide +kernel
theorem dX10_makesPairs_71 : decode cX10_makesPairs 71 = .ok (.iaload, 1) := by decide +kernel
theorem dX10_makesPairs_72 : decode cX10_makesPairs 72 = .ok (.if_icmp .ge 141, 3) := by decide +kernel
theorem dX10_makesPairs_75 : decode cX10_makesPairs 75 = .ok (.aload_n 0, 1) := by decide +kernel
theorem dX10_makesPairs_76 : decode cX10_makesPairs 76 = .ok (.iload 7, 2) := by decide +kernel
theorem dX10_makesPairs_78 : decode cX10_makesPairs 78 = .ok (.invokevirtual 215, 3) := by decide +kernel
theorem dX10_makesPairs_81 : decode cX10_makesPairs 81 = .ok (.ifCond .eq 126, 3) := by decide +kernel
theorem dX10_makesPairs_84 : decode cX10_makesPairs 84 = .ok (.aload_n 0, 1) := by decide +kernel
theorem dX10_makesPairs_85 : decode cX10_makesPairs 85 = .ok (.iload 8, 2) := by decide +kernel
theorem dX10_makesPairs_87 : decode cX10_makesPairs 87 = .ok (.invokevirtual 182, 3) := by decide +kernel
theorem dX10_makesPairs_90 : decode cX10_makesPairs 90 = .ok (.ifCond .eq 117, 3) := by decide +kernel
theorem dX10_makesPairs_93 : decode cX10_makesPairs 93 = .ok (.iload_n 1, 1) := by decide +kernel
theorem dX10_makesPairs_94 : decode cX10_makesPairs 94 = .ok (.iload 7, 2) := by decide +kernel
theorem dX10_makesPairs_96 : decode cX10_makesPairs 96 = .ok (.invokestatic 142, 3) := by decide +kernel
theorem dX10_makesPairs_99 : decode cX10_makesPairs 99 = .ok (.ifCond .ne 108, 3) := by decide +kernel
theorem dX10_makesPairs_102 : decode cX10_makesPairs 102 = .ok (.iload_n 1, 1) := by decide +kernel
theorem dX10_makesPairs_103 : decode cX10_makesPairs 103 = .ok (.iload 8, 2) := by decide +kernel
theorem dX10_makesPairs_105 : decode cX10_makesPairs 105 = .ok (.invokestatic 142, 3) := by decide +kernel
theorem dX10_makesPairs_108 : decode cX10_makesPairs 108 = .ok (.ifCond .ne 99, 3) := by decide +kernel
theorem dX10_makesPairs_111 : decode cX10_makesPairs 111 = .ok (.aload_n 0, 1) := by decide +kernel
theorem dX10_makesPairs_112 : decode cX10_makesPairs 112 = .ok (.iload 7, 2) := by decide +kernel
theorem dX10_makesPairs_114 : decode cX10_makesPairs 114 = .ok (.iload 8, 2) := by decide +kernel
theorem dX10_makesPairs_116 : decode cX10_makesPairs 116 = .ok (.invokevirtual 245, 3) := by decide +kernel
theorem dX10_makesPairs_119 : decode cX10_makesPairs 119 = .ok (.istore 9, 2) := by decide +kernel
theorem dX10_makesPairs_121 : decode cX10_makesPairs 121 = .ok (.iload 9, 2) := by decide +kernel
theorem dX10_makesPairs_123 : decode cX10_makesPairs 123 = .ok (.aload_n 0, 1) := by decide +kernel
theorem dX10_makesPairs_124 : decode cX10_makesPairs 124 = .ok (.aload_n 0, 1) := by decide +kernel
theorem dX10_makesPairs_125 : decode cX10_makesPairs 125 = .ok (.getfield 16, 3) := by decide +kernel
theorem dX10_makesPairs_128 : decode cX10_makesPairs 128 = .ok (.iload 7, 2) := by decide +kernel
theorem dX10_makesPairs_130 : decode cX10_makesPairs 130 = .ok (.invokevirtual 179, 3) := by decide +kernel
theorem dX10_makesPairs_133 : decode cX10_makesPairs 133 = .ok (.if_icmp .le 29, 3) := by decide +kernel
theorem dX10_makesPairs_136 : decode cX10_makesPairs 136 = .ok (.iload 9, 2) := by decide +kernel
theorem dX10_makesPairs_138 : decode cX10_makesPairs 138 = .ok (.aload_n 0, 1) := by decide +kernel
theorem dX10_makesPairs_139 : decode cX10_makesPairs 139 = .ok (.aload_n 0, 1) := by decide +kernel
theorem dX10_makesPairs_140 : decode cX10_makesPairs 140 = .ok (.getfield 16, 3) := by decide +kernel
theorem dX10_makesPairs_143 : decode cX10_makesPairs 143 = .ok (.iload 8, 2) := by decide +kernel
theorem dX10_makesPairs_145 : decode cX10_makesPairs 145 = .ok (.invokevirtual 179, 3) := by decide +kernel
theorem dX10_makesPairs_148 : decode cX10_makesPairs 148 = .ok (.if_icmp .le 14, 3) := by decide +kernel
theorem dX10_makesPairs_151 : decode cX10_makesPairs 151 = .ok (.iload 9, 2) := by decide +kernel
theorem dX10_makesPairs_153 : decode cX10_makesPairs 153 = .ok (.iload 4, 2) := by decide +kernel
theorem dX10_makesPairs_155 : decode cX10_makesPairs 155 = .ok (.if_icmp .le 7, 3) := by decide +kernel
theorem dX10_makesPairs_158 : decode cX10_makesPairs 158 = .ok (.iconst 1, 1) := by decide +kernel
theorem dX10_makesPairs_159 : decode cX10_makesPairs 159 = .ok (.goto 4, 3) := by decide +kernel
theorem dX10_makesPairs_162 : decode cX10_makesPairs 162 = .ok (.iconst 0, 1) := by decide +kernel
theorem dX10_makesPairs_163 : decode cX10_makesPairs 163 = .ok (.istore 10, 2) := by decide +kernel
theorem dX10_makesPairs_165 : decode cX10_makesPairs 165 = .ok (.iload 10, 2) := by decide +kernel
theorem dX10_makesPairs_167 : decode cX10_makesPairs 167 = .ok (.ifCond .eq 8, 3) := by decide +kernel
theorem dX10_makesPairs_170 : decode cX10_makesPairs 170 = .ok (.iload 7, 2) := by decide +kernel
theorem dX10_makesPairs_172 : decode cX10_makesPairs 172 = .ok (.goto 5, 3) := by decide +kernel
theorem dX10_makesPairs_175 : decode cX10_makesPairs 175 = .ok (.iload 5, 2) := by decide +kernel
theorem dX10_makesPairs_177 : decode cX10_makesPairs 177 = .ok (.istore 5, 2) := by decide +kernel
theorem dX10_makesPairs_179 : decode cX10_makesPairs 179 = .ok (.iload 10, 2) := by decide +kernel
theorem dX10_makesPairs_181 : decode cX10_makesPairs 181 = .ok (.ifCond .eq 8, 3) := by decide +kernel
theorem dX10_makesPairs_184 : decode cX10_makesPairs 184 = .ok (.iload 8, 2) := by decide +kernel
theorem dX10_makesPairs_186 : decode cX10_makesPairs 186 = .ok (.goto 5, 3) := by decide +kernel
theorem dX10_makesPairs_189 : decode cX10_makesPairs 189 = .ok (.iload 6, 2) := by decide +kernel
theorem dX10_makesPairs_191 : decode cX10_makesPairs 191 = .ok (.istore 6, 2) := by decide +kernel
theorem dX10_makesPairs_193 : decode cX10_makesPairs 193 = .ok (.iload 10, 2) := by decide +kernel
theorem dX10_makesPairs_195 : decode cX10_makesPairs 195 = .ok (.ifCond .eq 8, 3) := by decide +kernel
theorem dX10_makesPairs_198 : decode cX10_makesPairs 198 = .ok (.iload 9, 2) := by decide +kernel
theorem dX10_makesPairs_200 : decode cX10_makesPairs 200 = .ok (.goto 5, 3) := by decide +kernel
theorem dX10_makesPairs_203 : decode cX10_makesPairs 203 = .ok (.iload 4, 2) := by decide +kernel
theorem dX10_makesPairs_205 : decode cX10_makesPairs 205 = .ok (.istore 4, 2) := by decide +kernel
theorem dX10_makesPairs_207 : decode cX10_makesPairs 207 = .ok (.iinc 8 1, 3) := by decide +kernel
theorem dX10_makesPairs_210 : decode cX10_makesPairs 210 = .ok (.goto (-146), 3) := by decide +kernel
theorem dX10_makesPairs_213 : decode cX10_makesPairs 213 = .ok (.iinc 7 1, 3) := by decide +kernel
theorem dX10_makesPairs_216 : decode cX10_makesPairs 216 = .ok (.goto (-166), 3) := by decide +kernel
theorem dX10_makesPairs_219 : decode cX10_makesPairs 219 = .ok (.iload 5, 2) := by decide +kernel
theorem dX10_makesPairs_221 : decode cX10_makesPairs 221 = .ok (.iconst (-1), 1) := by decide +kernel
theorem dX10_makesPairs_222 : decode cX10_makesPairs 222 = .ok (.if_icmp .eq 29, 3) := by decide +kernel
theorem dX10_makesPairs_225 : decode cX10_makesPairs 225 = .ok (.aload_n 0, 1) := by decide +kernel
theorem dX10_makesPairs_226 : decode cX10_makesPairs 226 = .ok (.getfield 51, 3) := by decide +kernel
theorem dX10_makesPairs_229 : decode cX10_makesPairs 229 = .ok (.iload 5, 2) := by decide +kernel
theorem dX10_makesPairs_231 : decode cX10_makesPairs 231 = .ok (.iload 6, 2) := by decide +kernel
theorem dX10_makesPairs_233 : decode cX10_makesPairs 233 = .ok (.iastore, 1) := by decide +kernel
theorem dX10_makesPairs_234 : decode cX10_makesPairs 234 = .ok (.iload_n 1, 1) := by decide +kernel
theorem dX10_makesPairs_235 : decode cX10_makesPairs 235 = .ok (.iconst 1, 1) := by decide +kernel
theorem dX10_makesPairs_236 : decode cX10_makesPairs 236 = .ok (.iload 5, 2) := by decide +kernel
theorem dX10_makesPairs_238 : decode cX10_makesPairs 238 = .ok (.ishl, 1) := by decide +kernel
theorem dX10_makesPairs_239 : decode cX10_makesPairs 239 = .ok (.iconst 1, 1) := by decide +kernel
theorem dX10_makesPairs_240 : decode cX10_makesPairs 240 = .ok (.iload 6, 2) := by decide +kernel
theorem dX10_makesPairs_242 : decode cX10_makesPairs 242 = .ok (.ishl, 1) := by decide +kernel
theorem dX10_makesPairs_243 : decode cX10_makesPairs 243 = .ok (.ior, 1) := by decide +kernel
theorem dX10_makesPairs_244 : decode cX10_makesPairs 244 = .ok (.ior, 1) := by decide +kernel
theorem dX10_makesPairs_245 : decode cX10_makesPairs 245 = .ok (.istore_n 1, 1) := by decide +kernel
theorem dX10_makesPairs_246 : decode cX10_makesPairs 246 = .ok (.iinc 2 1, 3) := by decide +kernel
theorem dX10_makesPairs_249 : decode cX10_makesPairs 249 = .ok (.iconst 1, 1) := by decide +kernel
theorem dX10_makesPairs_250 : decode cX10_makesPairs 250 = .ok (.istore_n 3, 1) := by decide +kernel
theorem dX10_makesPairs_251 : decode cX10_makesPairs 251 = .ok (.goto (-221), 3) := by decide +kernel
theorem dX10_makesPairs_254 : decode cX10_makesPairs 254 = .ok (.iload_n 2, 1) := by decide +kernel
theorem dX10_makesPairs_255 : decode cX10_makesPairs 255 = .ok (.ireturn, 1) := by decide +kernel
theorem dX10_matches_0 : decode cX10_matches 0 = .ok (.iload_n 1, 1) := by decide +kernel
theorem dX10_matches_1 : decode cX10_matches 1 = .ok (.iconst (-1), 1) := by decide +kernel
theorem dX10_matches_2 : decode cX10_matches 2 = .ok (.if_icmp .eq 14, 3) := by decide +kernel
theorem dX10_matches_5 : decode cX10_matches 5 = .ok (.aload_n 0, 1) := by decide +kernel
theorem dX10_matches_6 : decode cX10_matches 6 = .ok (.iload_n 1, 1) := by decide +kernel
theorem dX10_matches_7 : decode cX10_matches 7 = .ok (.invokevirtual 215, 3) := by decide +kernel
theorem dX10_matches_10 : decode cX10_matches 10 = .ok (.ifCond .ne 6, 3) := by decide +kernel
theorem dX10_matches_13 : decode cX10_matches 13 = .ok (.ldc 175, 2) := by decide +kernel
theorem dX10_matches_15 : decode cX10_matches 15 = .ok (.ireturn, 1) := by decide +kernel
theorem dX10_matches_16 : decode cX10_matches 16 = .ok (.aload_n 0, 1) := by decide +kernel
theorem dX10_matches_17 : decode cX10_matches 17 = .ok (.invokevirtual 262, 3) := by decide +kernel
theorem dX10_matches_20 : decode cX10_matches 20 = .ok (.istore_n 2, 1) := by decide +kernel
theorem dX10_matches_21 : decode cX10_matches 21 = .ok (.iload_n 1, 1) := by decide +kernel
theorem dX10_matches_22 : decode cX10_matches 22 = .ok (.iconst (-1), 1) := by decide +kernel
theorem dX10_matches_23 : decode cX10_matches 23 = .ok (.if_icmp .ne 7, 3) := by decide +kernel
theorem dX10_matches_26 : decode cX10_matches 26 = .ok (.iload_n 2, 1) := by decide +kernel
theorem dX10_matches_27 : decode cX10_matches 27 = .ok (.goto 9, 3) := by decide +kernel
theorem dX10_matches_30 : decode cX10_matches 30 = .ok (.aload_n 0, 1) := by decide +kernel
theorem dX10_matches_31 : decode cX10_matches 31 = .ok (.getfield 51, 3) := by decide +kernel
theorem dX10_matches_34 : decode cX10_matches 34 = .ok (.iload_n 1, 1) := by decide +kernel
theorem dX10_matches_35 : decode cX10_matches 35 = .ok (.iaload, 1) := by decide +kernel
theorem dX10_matches_36 : decode cX10_matches 36 = .ok (.ireturn, 1) := by decide +kernel
theorem dX10_failing_0 : decode cX10_failing 0 = .ok (.aload_n 0, 1) := by decide +kernel
theorem dX10_failing_1 : decode cX10_failing 1 = .ok (.invokevirtual 242, 3) := by decide +kernel
theorem dX10_failing_4 : decode cX10_failing 4 = .ok (.aload_n 0, 1) := by decide +kernel
theorem dX10_failing_5 : decode cX10_failing 5 = .ok (.aload_n 0, 1) := by decide +kernel
theorem dX10_failing_6 : decode cX10_failing 6 = .ok (.getfield 19, 3) := by decide +kernel
theorem dX10_failing_9 : decode cX10_failing 9 = .ok (.invokevirtual 208, 3) := by decide +kernel
theorem dX10_failing_12 : decode cX10_failing 12 = .ok (.aload_n 0, 1) := by decide +kernel
theorem dX10_failing_13 : decode cX10_failing 13 = .ok (.getfield 19, 3) := by decide +kernel
theorem dX10_failing_16 : decode cX10_failing 16 = .ok (.bipush 52, 2) := by decide +kernel
theorem dX10_failing_18 : decode cX10_failing 18 = .ok (.iaload, 1) := by decide +kernel
theorem dX10_failing_19 : decode cX10_failing 19 = .ok (.aload_n 0, 1) := by decide +kernel
theorem dX10_failing_20 : decode cX10_failing 20 = .ok (.getfield 16, 3) := by decide +kernel
theorem dX10_failing_23 : decode cX10_failing 23 = .ok (.bipush 52, 2) := by decide +kernel
theorem dX10_failing_25 : decode cX10_failing 25 = .ok (.iaload, 1) := by decide +kernel
theorem dX10_failing_26 : decode cX10_failing 26 = .ok (.iconst (-1), 1) := by decide +kernel
theorem dX10_failing_27 : decode cX10_failing 27 = .ok (.ixor, 1) := by decide +kernel
theorem dX10_failing_28 : decode cX10_failing 28 = .ok (.iand, 1) := by decide +kernel
theorem dX10_failing_29 : decode cX10_failing 29 = .ok (.ireturn, 1) := by decide +kernel
theorem dX10_run_0 : decode cX10_run 0 = .ok (.iload_n 1, 1) := by decide +kernel
theorem dX10_run_1 : decode cX10_run 1 = .ok (.i2l, 1) := by decide +kernel
theorem dX10_run_2 : decode cX10_run 2 = .ok (.lconst 1, 1) := by decide +kernel
theorem dX10_run_3 : decode cX10_run 3 = .ok (.ldc2_w 203, 3) := by decide +kernel
theorem dX10_run_6 : decode cX10_run 6 = .ok (.invokestatic 65, 3) := by decide +kernel
theorem dX10_run_9 : decode cX10_run 9 = .ok (.ifCond .ne 6, 3) := by decide +kernel
theorem dX10_run_12 : decode cX10_run 12 = .ok (.ldc 80, 2) := by decide +kernel
theorem dX10_run_14 : decode cX10_run 14 = .ok (.ireturn, 1) := by decide +kernel
theorem dX10_run_15 : decode cX10_run 15 = .ok (.aload_n 0, 1) := by decide +kernel
theorem dX10_run_16 : decode cX10_run 16 = .ok (.invokevirtual 242, 3) := by decide +kernel
theorem dX10_run_19 : decode cX10_run 19 = .ok (.iconst 0, 1) := by decide +kernel
theorem dX10_run_20 : decode cX10_run 20 = .ok (.istore_n 2, 1) := by decide +kernel
theorem dX10_run_21 : decode cX10_run 21 = .ok (.iload_n 2, 1) := by decide +kernel
theorem dX10_run_22 : decode cX10_run 22 = .ok (.iload_n 1, 1) := by decide +kernel
theorem dX10_run_23 : decode cX10_run 23 = .ok (.if_icmp .ge 17, 3) := by decide +kernel
theorem dX10_run_26 : decode cX10_run 26 = .ok (.aload_n 0, 1) := by decide +kernel
theorem dX10_run_27 : decode cX10_run 27 = .ok (.aload_n 0, 1) := by decide +kernel
theorem dX10_run_28 : decode cX10_run 28 = .ok (.getfield 19, 3) := by decide +kernel
theorem dX10_run_31 : decode cX10_run 31 = .ok (.invokevirtual 208, 3) := by decide +kernel
theorem dX10_run_34 : decode cX10_run 34 = .ok (.iinc 2 1, 3) := by decide +kernel
theorem dX10_run_37 : decode cX10_run 37 = .ok (.goto (-16), 3) := by decide +kernel
theorem dX10_run_40 : decode cX10_run 40 = .ok (.aload_n 0, 1) := by decide +kernel
theorem dX10_run_41 : decode cX10_run 41 = .ok (.getfield 19, 3) := by decide +kernel
theorem dX10_run_44 : decode cX10_run 44 = .ok (.bipush 52, 2) := by decide +kernel
theorem dX10_run_46 : decode cX10_run 46 = .ok (.iaload, 1) := by decide +kernel
theorem dX10_run_47 : decode cX10_run 47 = .ok (.ireturn, 1) := by decide +kernel
theorem dX10_credit_0 : decode cX10_credit 0 = .ok (.aload_n 0, 1) := by decide +kernel
theorem dX10_credit_1 : decode cX10_credit 1 = .ok (.iload_n 1, 1) := by decide +kernel
theorem dX10_credit_2 : decode cX10_credit 2 = .ok (.invokevirtual 139, 3) := by decide +kernel
theorem dX10_credit_5 : decode cX10_credit 5 = .ok (.ifCond .eq 11, 3) := by decide +kernel
theorem dX10_credit_8 : decode cX10_credit 8 = .ok (.aload_n 0, 1) := by decide +kernel
theorem dX10_credit_9 : decode cX10_credit 9 = .ok (.iload_n 2, 1) := by decide +kernel
theorem dX10_credit_10 : decode cX10_credit 10 = .ok (.invokevirtual 172, 3) := by decide +kernel
theorem dX10_credit_13 : decode cX10_credit 13 = .ok (.ifCond .ne 6, 3) := by decide +kernel
theorem dX10_credit_16 : decode cX10_credit 16 = .ok (.ldc 175, 2) := by decide +kernel
theorem dX10_credit_18 : decode cX10_credit 18 = .ok (.ireturn, 1) := by decide +kernel
theorem dX10_credit_19 : decode cX10_credit 19 = .ok (.sipush 999, 3) := by decide +kernel
theorem dX10_credit_22 : decode cX10_credit 22 = .ok (.istore_n 3, 1) := by decide +kernel
theorem dX10_credit_23 : decode cX10_credit 23 = .ok (.iload_n 3, 1) := by decide +kernel
theorem dX10_credit_24 : decode cX10_credit 24 = .ok (.ifCond .lt 59, 3) := by decide +kernel
theorem dX10_credit_27 : decode cX10_credit 27 = .ok (.iload_n 3, 1) := by decide +kernel
theorem dX10_credit_28 : decode cX10_credit 28 = .ok (.ifCond .eq 13, 3) := by decide +kernel
theorem dX10_credit_31 : decode cX10_credit 31 = .ok (.aload_n 0, 1) := by decide +kernel
theorem dX10_credit_32 : decode cX10_credit 32 = .ok (.iload_n 1, 1) := by decide +kernel
theorem dX10_credit_33 : decode cX10_credit 33 = .ok (.iload_n 2, 1) := by decide +kernel
theorem dX10_credit_34 : decode cX10_credit 34 = .ok (.iload_n 3, 1) := by decide +kernel
theorem dX10_credit_35 : decode cX10_credit 35 = .ok (.invokevirtual 190, 3) := by decide +kernel
theorem dX10_credit_38 : decode cX10_credit 38 = .ok (.ifCond .eq 39, 3) := by decide +kernel
theorem dX10_credit_41 : decode cX10_credit 41 = .ok (.aload_n 0, 1) := by decide +kernel
theorem dX10_credit_42 : decode cX10_credit 42 = .ok (.invokevirtual 242, 3) := by decide +kernel
theorem dX10_credit_45 : decode cX10_credit 45 = .ok (.aload_n 0, 1) := by decide +kernel
theorem dX10_credit_46 : decode cX10_credit 46 = .ok (.getfield 19, 3) := by decide +kernel
theorem dX10_credit_49 : decode cX10_credit 49 = .ok (.iconst 0, 1) := by decide +kernel
theorem dX10_credit_50 : decode cX10_credit 50 = .ok (.iconst 4, 1) := by decide +kernel
theorem dX10_credit_51 : decode cX10_credit 51 = .ok (.iload_n 1, 1) := by decide +kernel
theorem dX10_credit_52 : decode cX10_credit 52 = .ok (.imul, 1) := by decide +kernel
theorem dX10_credit_53 : decode cX10_credit 53 = .ok (.iadd, 1) := by decide +kernel
theorem dX10_credit_54 : decode cX10_credit 54 = .ok (.iload_n 2, 1) := by decide +kernel
theorem dX10_credit_55 : decode cX10_credit 55 = .ok (.iadd, 1) := by decide +kernel
theorem dX10_credit_56 : decode cX10_credit 56 = .ok (.dup2, 1) := by decide +kernel
theorem dX10_credit_57 : decode cX10_credit 57 = .ok (.iaload, 1) := by decide +kernel
theorem dX10_credit_58 : decode cX10_credit 58 = .ok (.iload_n 3, 1) := by decide +kernel
theorem dX10_credit_59 : decode cX10_credit 59 = .ok (.iadd, 1) := by decide +kernel
theorem dX10_credit_60 : decode cX10_credit 60 = .ok (.iastore, 1) := by decide +kernel
theorem dX10_credit_61 : decode cX10_credit 61 = .ok (.aload_n 0, 1) := by decide +kernel
theorem dX10_credit_62 : decode cX10_credit 62 = .ok (.aload_n 0, 1) := by decide +kernel
theorem dX10_credit_63 : decode cX10_credit 63 = .ok (.getfield 19, 3) := by decide +kernel
theorem dX10_credit_66 : decode cX10_credit 66 = .ok (.iload_n 1, 1) := by decide +kernel
theorem dX10_credit_67 : decode cX10_credit 67 = .ok (.iload_n 2, 1) := by decide +kernel
theorem dX10_credit_68 : decode cX10_credit 68 = .ok (.invokevirtual 146, 3) := by decide +kernel
theorem dX10_credit_71 : decode cX10_credit 71 = .ok (.iconst 1, 1) := by decide +kernel
theorem dX10_credit_72 : decode cX10_credit 72 = .ok (.if_icmp .ne 5, 3) := by decide +kernel
theorem dX10_credit_75 : decode cX10_credit 75 = .ok (.iload_n 3, 1) := by decide +kernel
theorem dX10_credit_76 : decode cX10_credit 76 = .ok (.ireturn, 1) := by decide +kernel
theorem dX10_credit_77 : decode cX10_credit 77 = .ok (.iinc 3 (-1), 3) := by decide +kernel
theorem dX10_credit_80 : decode cX10_credit 80 = .ok (.goto (-57), 3) := by decide +kernel
theorem dX10_credit_83 : decode cX10_credit 83 = .ok (.iconst (-1), 1) := by decide +kernel
theorem dX10_credit_84 : decode cX10_credit 84 = .ok (.ireturn, 1) := by decide +kernel
theorem dX10_rumours_0 : decode cX10_rumours 0 = .ok (.iload_n 1, 1) := by decide +kernel
theorem dX10_rumours_1 : decode cX10_rumours 1 = .ok (.i2l, 1) := by decide +kernel
theorem dX10_rumours_2 : decode cX10_rumours 2 = .ok (.lconst 0, 1) := by decide +kernel
theorem dX10_rumours_3 : decode cX10_rumours 3 = .ok (.ldc2_w 265, 3) := by decide +kernel
theorem dX10_rumours_6 : decode cX10_rumours 6 = .ok (.invokestatic 65, 3) := by decide +kernel
theorem dX10_rumours_9 : decode cX10_rumours 9 = .ok (.ifCond .eq 15, 3) := by decide +kernel
theorem dX10_rumours_12 : decode cX10_rumours 12 = .ok (.iload_n 2, 1) := by decide +kernel
theorem dX10_rumours_13 : decode cX10_rumours 13 = .ok (.i2l, 1) := by decide +kernel
theorem dX10_rumours_14 : decode cX10_rumours 14 = .ok (.lconst 0, 1) := by decide +kernel
theorem dX10_rumours_15 : decode cX10_rumours 15 = .ok (.ldc2_w 267, 3) := by decide +kernel
theorem dX10_rumours_18 : decode cX10_rumours 18 = .ok (.invokestatic 65, 3) := by decide +kernel
theorem dX10_rumours_21 : decode cX10_rumours 21 = .ok (.ifCond .ne 6, 3) := by decide +kernel
theorem dX10_rumours_24 : decode cX10_rumours 24 = .ok (.ldc 80, 2) := by decide +kernel
theorem dX10_rumours_26 : decode cX10_rumours 26 = .ok (.ireturn, 1) := by decide +kernel
theorem dX10_rumours_27 : decode cX10_rumours 27 = .ok (.ldc2_w 269, 3) := by decide +kernel
theorem dX10_rumours_30 : decode cX10_rumours 30 = .ok (.lstore_n 3, 1) := by decide +kernel
theorem dX10_rumours_31 : decode cX10_rumours 31 = .ok (.iconst 0, 1) := by decide +kernel
theorem dX10_rumours_32 : decode cX10_rumours 32 = .ok (.istore 5, 2) := by decide +kernel
theorem dX10_rumours_34 : decode cX10_rumours 34 = .ok (.iload 5, 2) := by decide +kernel
theorem dX10_rumours_36 : decode cX10_rumours 36 = .ok (.iload_n 1, 1) := by decide +kernel
theorem dX10_rumours_37 : decode cX10_rumours 37 = .ok (.if_icmp .ge 21, 3) := by decide +kernel
theorem dX10_rumours_40 : decode cX10_rumours 40 = .ok (.lload_n 3, 1) := by decide +kernel
theorem dX10_rumours_41 : decode cX10_rumours 41 = .ok (.bipush 100, 2) := by decide +kernel
theorem dX10_rumours_43 : decode cX10_rumours 43 = .ok (.iload_n 2, 1) := by decide +kernel
theorem dX10_rumours_44 : decode cX10_rumours 44 = .ok (.isub, 1) := by decide +kernel
theorem dX10_rumours_45 : decode cX10_rumours 45 = .ok (.i2l, 1) := by decide +kernel
theorem dX10_rumours_46 : decode cX10_rumours 46 = .ok (.lmul, 1) := by decide +kernel
theorem dX10_rumours_47 : decode cX10_rumours 47 = .ok (.ldc2_w 267, 3) := by decide +kernel
theorem dX10_rumours_50 : decode cX10_rumours 50 = .ok (.ldiv, 1) := by decide +kernel
theorem dX10_rumours_51 : decode cX10_rumours 51 = .ok (.lstore_n 3, 1) := by decide +kernel
theorem dX10_rumours_52 : decode cX10_rumours 52 = .ok (.iinc 5 1, 3) := by decide +kernel
theorem dX10_rumours_55 : decode cX10_rumours 55 = .ok (.goto (-21), 3) := by decide +kernel
theorem dX10_rumours_58 : decode cX10_rumours 58 = .ok (.lload_n 3, 1) := by decide +kernel
theorem dX10_rumours_59 : decode cX10_rumours 59 = .ok (.l2i, 1) := by decide +kernel
theorem dX10_rumours_60 : decode cX10_rumours 60 = .ok (.ireturn, 1) := by decide +kernel
theorem dX10_card_0 : decode cX10_card 0 = .ok (.aload_n 0, 1) := by decide +kernel
theorem dX10_card_1 : decode cX10_card 1 = .ok (.iload_n 1, 1) := by decide +kernel
theorem dX10_card_2 : decode cX10_card 2 = .ok (.invokevirtual 139, 3) := by decide +kernel
theorem dX10_card_5 : decode cX10_card 5 = .ok (.ifCond .eq 11, 3) := by decide +kernel
theorem dX10_card_8 : decode cX10_card 8 = .ok (.aload_n 0, 1) := by decide +kernel
theorem dX10_card_9 : decode cX10_card 9 = .ok (.iload_n 2, 1) := by decide +kernel
theorem dX10_card_10 : decode cX10_card 10 = .ok (.invokevirtual 172, 3) := by decide +kernel
theorem dX10_card_13 : decode cX10_card 13 = .ok (.ifCond .ne 6, 3) := by decide +kernel
theorem dX10_card_16 : decode cX10_card 16 = .ok (.ldc 175, 2) := by decide +kernel
theorem dX10_card_18 : decode cX10_card 18 = .ok (.ireturn, 1) := by decide +kernel
theorem dX10_card_19 : decode cX10_card 19 = .ok (.iload_n 3, 1) := by decide +kernel
theorem dX10_card_20 : decode cX10_card 20 = .ok (.i2l, 1) := by decide +kernel
theorem dX10_card_21 : decode cX10_card 21 = .ok (.lconst 0, 1) := by decide +kernel
theorem dX10_card_22 : decode cX10_card 22 = .ok (.ldc2_w 271, 3) := by decide +kernel
theorem dX10_card_25 : decode cX10_card 25 = .ok (.invokestatic 65, 3) := by decide +kernel
theorem dX10_card_28 : decode cX10_card 28 = .ok (.ifCond .ne 6, 3) := by decide +kernel
theorem dX10_card_31 : decode cX10_card 31 = .ok (.ldc 80, 2) := by decide +kernel
theorem dX10_card_33 : decode cX10_card 33 = .ok (.ireturn, 1) := by decide +kernel
theorem dX10_card_34 : decode cX10_card 34 = .ok (.aload_n 0, 1) := by decide +kernel
theorem dX10_card_35 : decode cX10_card 35 = .ok (.getfield 72, 3) := by decide +kernel
theorem dX10_card_38 : decode cX10_card 38 = .ok (.bipush 6, 2) := by decide +kernel
theorem dX10_card_40 : decode cX10_card 40 = .ok (.if_icmp .ne 6, 3) := by decide +kernel
theorem dX10_card_43 : decode cX10_card 43 = .ok (.ldc 84, 2) := by decide +kernel
theorem dX10_card_45 : decode cX10_card 45 = .ok (.ireturn, 1) := by decide +kernel
theorem dX10_card_46 : decode cX10_card 46 = .ok (.iconst 4, 1) := by decide +kernel
theorem dX10_card_47 : decode cX10_card 47 = .ok (.aload_n 0, 1) := by decide +kernel
theorem dX10_card_48 : decode cX10_card 48 = .ok (.getfield 72, 3) := by decide +kernel
theorem dX10_card_51 : decode cX10_card 51 = .ok (.imul, 1) := by decide +kernel
theorem dX10_card_52 : decode cX10_card 52 = .ok (.istore 5, 2) := by decide +kernel
theorem dX10_card_54 : decode cX10_card 54 = .ok (.aload_n 0, 1) := by decide +kernel
theorem dX10_card_55 : decode cX10_card 55 = .ok (.getfield 39, 3) := by decide +kernel
theorem dX10_card_58 : decode cX10_card 58 = .ok (.iload 5, 2) := by decide +kernel
theorem dX10_card_60 : decode cX10_card 60 = .ok (.iload_n 1, 1) := by decide +kernel
theorem dX10_card_61 : decode cX10_card 61 = .ok (.iastore, 1) := by decide +kernel
theorem dX10_card_62 : decode cX10_card 62 = .ok (.aload_n 0, 1) := by decide +kernel
theorem dX10_card_63 : decode cX10_card 63 = .ok (.getfield 39, 3) := by decide +kernel
theorem dX10_card_66 : decode cX10_card 66 = .ok (.iload 5, 2) := by decide +kernel
theorem dX10_card_68 : decode cX10_card 68 = .ok (.iconst 1, 1) := by decide +kernel
theorem dX10_card_69 : decode cX10_card 69 = .ok (.iadd, 1) := by decide +kernel
theorem dX10_card_70 : decode cX10_card 70 = .ok (.iload_n 2, 1) := by decide +kernel
theorem dX10_card_71 : decode cX10_card 71 = .ok (.iastore, 1) := by decide +kernel
theorem dX10_card_72 : decode cX10_card 72 = .ok (.aload_n 0, 1) := by decide +kernel
theorem dX10_card_73 : decode cX10_card 73 = .ok (.getfield 39, 3) := by decide +kernel
theorem dX10_card_76 : decode cX10_card 76 = .ok (.iload 5, 2) := by decide +kernel
theorem dX10_card_78 : decode cX10_card 78 = .ok (.iconst 2, 1) := by decide +kernel
theorem dX10_card_79 : decode cX10_card 79 = .ok (.iadd, 1) := by decide +kernel
theorem dX10_card_80 : decode cX10_card 80 = .ok (.iload_n 3, 1) := by decide +kernel
theorem dX10_card_81 : decode cX10_card 81 = .ok (.iastore, 1) := by decide +kernel
theorem dX10_card_82 : decode cX10_card 82 = .ok (.aload_n 0, 1) := by decide +kernel
theorem dX10_card_83 : decode cX10_card 83 = .ok (.getfield 39, 3) := by decide +kernel
theorem dX10_card_86 : decode cX10_card 86 = .ok (.iload 5, 2) := by decide +kernel
theorem dX10_card_88 : decode cX10_card 88 = .ok (.iconst 3, 1) := by decide +kernel
theorem dX10_card_89 : decode cX10_card 89 = .ok (.iadd, 1) := by decide +kernel
theorem dX10_card_90 : decode cX10_card 90 = .ok (.iload 4, 2) := by decide +kernel
theorem dX10_card_92 : decode cX10_card 92 = .ok (.ifCond .eq 7, 3) := by decide +kernel
theorem dX10_card_95 : decode cX10_card 95 = .ok (.iconst 1, 1) := by decide +kernel
theorem dX10_card_96 : decode cX10_card 96 = .ok (.goto 4, 3) := by decide +kernel
theorem dX10_card_99 : decode cX10_card 99 = .ok (.iconst 0, 1) := by decide +kernel
theorem dX10_card_100 : decode cX10_card 100 = .ok (.iastore, 1) := by decide +kernel
theorem dX10_card_101 : decode cX10_card 101 = .ok (.aload_n 0, 1) := by decide +kernel
theorem dX10_card_102 : decode cX10_card 102 = .ok (.dup, 1) := by decide +kernel
theorem dX10_card_103 : decode cX10_card 103 = .ok (.getfield 72, 3) := by decide +kernel
theorem dX10_card_106 : decode cX10_card 106 = .ok (.iconst 1, 1) := by decide +kernel
theorem dX10_card_107 : decode cX10_card 107 = .ok (.iadd, 1) := by decide +kernel
theorem dX10_card_108 : decode cX10_card 108 = .ok (.putfield 72, 3) := by decide +kernel
theorem dX10_card_111 : decode cX10_card 111 = .ok (.aload_n 0, 1) := by decide +kernel
theorem dX10_card_112 : decode cX10_card 112 = .ok (.getfield 72, 3) := by decide +kernel
theorem dX10_card_115 : decode cX10_card 115 = .ok (.ireturn, 1) := by decide +kernel
theorem dX10_isCivil_0 : decode cX10_isCivil 0 = .ok (.iload_n 2, 1) := by decide +kernel
theorem dX10_isCivil_1 : decode cX10_isCivil 1 = .ok (.istore 4, 2) := by decide +kernel
theorem dX10_isCivil_3 : decode cX10_isCivil 3 = .ok (.iconst 0, 1) := by decide +kernel
theorem dX10_isCivil_4 : decode cX10_isCivil 4 = .ok (.istore 5, 2) := by decide +kernel
theorem dX10_isCivil_6 : decode cX10_isCivil 6 = .ok (.iload 5, 2) := by decide +kernel
theorem dX10_isCivil_8 : decode cX10_isCivil 8 = .ok (.iload_n 3, 1) := by decide +kernel
theorem dX10_isCivil_9 : decode cX10_isCivil 9 = .ok (.if_icmp .ge 17, 3) := by decide +kernel
theorem dX10_isCivil_12 : decode cX10_isCivil 12 = .ok (.aload_n 0, 1) := by decide +kernel
theorem dX10_isCivil_13 : decode cX10_isCivil 13 = .ok (.iload 4, 2) := by decide +kernel
theorem dX10_isCivil_15 : decode cX10_isCivil 15 = .ok (.invokevirtual 154, 3) := by decide +kernel
theorem dX10_isCivil_18 : decode cX10_isCivil 18 = .ok (.istore 4, 2) := by decide +kernel
theorem dX10_isCivil_20 : decode cX10_isCivil 20 = .ok (.iinc 5 1, 3) := by decide +kernel
theorem dX10_isCivil_23 : decode cX10_isCivil 23 = .ok (.goto (-17), 3) := by decide +kernel
theorem dX10_isCivil_26 : decode cX10_isCivil 26 = .ok (.iload 4, 2) := by decide +kernel
theorem dX10_isCivil_28 : decode cX10_isCivil 28 = .ok (.i2l, 1) := by decide +kernel
theorem dX10_isCivil_29 : decode cX10_isCivil 29 = .ok (.aload_n 0, 1) := by decide +kernel
theorem dX10_isCivil_30 : decode cX10_isCivil 30 = .ok (.getfield 7, 3) := by decide +kernel
theorem dX10_isCivil_33 : decode cX10_isCivil 33 = .ok (.bipush 9, 2) := by decide +kernel
theorem dX10_isCivil_35 : decode cX10_isCivil 35 = .ok (.iload_n 1, 1) := by decide +kernel
theorem dX10_isCivil_36 : decode cX10_isCivil 36 = .ok (.iadd, 1) := by decide +kernel
theorem dX10_isCivil_37 : decode cX10_isCivil 37 = .ok (.iaload, 1) := by decide +kernel
theorem dX10_isCivil_38 : decode cX10_isCivil 38 = .ok (.i2l, 1) := by decide +kernel
theorem dX10_isCivil_39 : decode cX10_isCivil 39 = .ok (.aload_n 0, 1) := by decide +kernel
theorem dX10_isCivil_40 : decode cX10_isCivil 40 = .ok (.getfield 7, 3) := by decide +kernel
theorem dX10_isCivil_43 : decode cX10_isCivil 43 = .ok (.bipush 13, 2) := by decide +kernel
theorem dX10_isCivil_45 : decode cX10_isCivil 45 = .ok (.iload_n 1, 1) := by decide +kernel
theorem dX10_isCivil_46 : decode cX10_isCivil 46 = .ok (.iadd, 1) := by decide +kernel
theorem dX10_isCivil_47 : decode cX10_isCivil 47 = .ok (.iaload, 1) := by decide +kernel
theorem dX10_isCivil_48 : decode cX10_isCivil 48 = .ok (.i2l, 1) := by decide +kernel
theorem dX10_isCivil_49 : decode cX10_isCivil 49 = .ok (.invokestatic 65, 3) := by decide +kernel
theorem dX10_isCivil_52 : decode cX10_isCivil 52 = .ok (.ireturn, 1) := by decide +kernel
theorem dX10_couldBe_0 : decode cX10_couldBe 0 = .ok (.iconst 0, 1) := by decide +kernel
theorem dX10_couldBe_1 : decode cX10_couldBe 1 = .ok (.istore 4, 2) := by decide +kernel
theorem dX10_couldBe_3 : decode cX10_couldBe 3 = .ok (.iload 4, 2) := by decide +kernel
theorem dX10_couldBe_5 : decode cX10_couldBe 5 = .ok (.iconst 4, 1) := by decide +kernel
theorem dX10_couldBe_6 : decode cX10_couldBe 6 = .ok (.aload_n 0, 1) := by decide +kernel
theorem dX10_couldBe_7 : decode cX10_couldBe 7 = .ok (.getfield 72, 3) := by decide +kernel
theorem dX10_couldBe_10 : decode cX10_couldBe 10 = .ok (.imul, 1) := by decide +kernel
theorem dX10_couldBe_11 : decode cX10_couldBe 11 = .ok (.if_icmp .ge 83, 3) := by decide +kernel
theorem dX10_couldBe_14 : decode cX10_couldBe 14 = .ok (.aload_n 0, 1) := by decide +kernel
theorem dX10_couldBe_15 : decode cX10_couldBe 15 = .ok (.getfield 39, 3) := by decide +kernel
theorem dX10_couldBe_18 : decode cX10_couldBe 18 = .ok (.iload 4, 2) := by decide +kernel
theorem dX10_couldBe_20 : decode cX10_couldBe 20 = .ok (.iaload, 1) := by decide +kernel
theorem dX10_couldBe_21 : decode cX10_couldBe 21 = .ok (.iload_n 1, 1) := by decide +kernel
theorem dX10_couldBe_22 : decode cX10_couldBe 22 = .ok (.if_icmp .ne 20, 3) := by decide +kernel
theorem dX10_couldBe_25 : decode cX10_couldBe 25 = .ok (.aload_n 0, 1) := by decide +kernel
theorem dX10_couldBe_26 : decode cX10_couldBe 26 = .ok (.getfield 39, 3) := by decide +kernel
theorem dX10_couldBe_29 : decode cX10_couldBe 29 = .ok (.iload 4, 2) := by decide +kernel
theorem dX10_couldBe_31 : decode cX10_couldBe 31 = .ok (.iconst 1, 1) := by decide +kernel
theorem dX10_couldBe_32 : decode cX10_couldBe 32 = .ok (.iadd, 1) := by decide +kernel
theorem dX10_couldBe_33 : decode cX10_couldBe 33 = .ok (.iaload, 1) := by decide +kernel
theorem dX10_couldBe_34 : decode cX10_couldBe 34 = .ok (.iload_n 2, 1) := by decide +kernel
theorem dX10_couldBe_35 : decode cX10_couldBe 35 = .ok (.if_icmp .ne 7, 3) := by decide +kernel
theorem dX10_couldBe_38 : decode cX10_couldBe 38 = .ok (.iconst 1, 1) := by decide +kernel
theorem dX10_couldBe_39 : decode cX10_couldBe 39 = .ok (.goto 4, 3) := by decide +kernel
theorem dX10_couldBe_42 : decode cX10_couldBe 42 = .ok (.iconst 0, 1) := by decide +kernel
theorem dX10_couldBe_43 : decode cX10_couldBe 43 = .ok (.istore 5, 2) := by decide +kernel
theorem dX10_couldBe_45 : decode cX10_couldBe 45 = .ok (.iload 5, 2) := by decide +kernel
theorem dX10_couldBe_47 : decode cX10_couldBe 47 = .ok (.ifCond .eq 41, 3) := by decide +kernel
theorem dX10_couldBe_50 : decode cX10_couldBe 50 = .ok (.aload_n 0, 1) := by decide +kernel
theorem dX10_couldBe_51 : decode cX10_couldBe 51 = .ok (.iload_n 2, 1) := by decide +kernel
theorem dX10_couldBe_52 : decode cX10_couldBe 52 = .ok (.iload_n 3, 1) := by decide +kernel
theorem dX10_couldBe_53 : decode cX10_couldBe 53 = .ok (.aload_n 0, 1) := by decide +kernel
theorem dX10_couldBe_54 : decode cX10_couldBe 54 = .ok (.getfield 39, 3) := by decide +kernel
theorem dX10_couldBe_57 : decode cX10_couldBe 57 = .ok (.iload 4, 2) := by decide +kernel
theorem dX10_couldBe_59 : decode cX10_couldBe 59 = .ok (.iconst 2, 1) := by decide +kernel
theorem dX10_couldBe_60 : decode cX10_couldBe 60 = .ok (.iadd, 1) := by decide +kernel
theorem dX10_couldBe_61 : decode cX10_couldBe 61 = .ok (.iaload, 1) := by decide +kernel
theorem dX10_couldBe_62 : decode cX10_couldBe 62 = .ok (.invokevirtual 273, 3) := by decide +kernel
theorem dX10_couldBe_65 : decode cX10_couldBe 65 = .ok (.aload_n 0, 1) := by decide +kernel
theorem dX10_couldBe_66 : decode cX10_couldBe 66 = .ok (.getfield 39, 3) := by decide +kernel
theorem dX10_couldBe_69 : decode cX10_couldBe 69 = .ok (.iload 4, 2) := by decide +kernel
theorem dX10_couldBe_71 : decode cX10_couldBe 71 = .ok (.iconst 3, 1) := by decide +kernel
theorem dX10_couldBe_72 : decode cX10_couldBe 72 = .ok (.iadd, 1) := by decide +kernel
theorem dX10_couldBe_73 : decode cX10_couldBe 73 = .ok (.iaload, 1) := by decide +kernel
theorem dX10_couldBe_74 : decode cX10_couldBe 74 = .ok (.iconst 1, 1) := by decide +kernel
theorem dX10_couldBe_75 : decode cX10_couldBe 75 = .ok (.if_icmp .ne 7, 3) := by decide +kernel
theorem dX10_couldBe_78 : decode cX10_couldBe 78 = .ok (.iconst 1, 1) := by decide +kernel
theorem dX10_couldBe_79 : decode cX10_couldBe 79 = .ok (.goto 4, 3) := by decide +kernel
theorem dX10_couldBe_82 : decode cX10_couldBe 82 = .ok (.iconst 0, 1) := by decide +kernel
theorem dX10_couldBe_83 : decode cX10_couldBe 83 = .ok (.if_icmp .eq 5, 3) := by decide +kernel
theorem dX10_couldBe_86 : decode cX10_couldBe 86 = .ok (.iconst 0, 1) := by decide +kernel
theorem dX10_couldBe_87 : decode cX10_couldBe 87 = .ok (.ireturn, 1) := by decide +kernel
theorem dX10_couldBe_88 : decode cX10_couldBe 88 = .ok (.iinc 4 4, 3) := by decide +kernel
theorem dX10_couldBe_91 : decode cX10_couldBe 91 = .ok (.goto (-88), 3) := by decide +kernel
theorem dX10_couldBe_94 : decode cX10_couldBe 94 = .ok (.iconst 1, 1) := by decide +kernel
theorem dX10_couldBe_95 : decode cX10_couldBe 95 = .ok (.ireturn, 1) := by decide +kernel
theorem dX10_had_0 : decode cX10_had 0 = .ok (.aload_n 0, 1) := by decide +kernel
theorem dX10_had_1 : decode cX10_had 1 = .ok (.iload_n 1, 1) := by decide +kernel
theorem dX10_had_2 : decode cX10_had 2 = .ok (.invokevirtual 139, 3) := by decide +kernel
theorem dX10_had_5 : decode cX10_had 5 = .ok (.ifCond .eq 11, 3) := by decide +kernel
theorem dX10_had_8 : decode cX10_had 8 = .ok (.aload_n 0, 1) := by decide +kernel
theorem dX10_had_9 : decode cX10_had 9 = .ok (.iload_n 2, 1) := by decide +kernel
theorem dX10_had_10 : decode cX10_had 10 = .ok (.invokevirtual 172, 3) := by decide +kernel
theorem dX10_had_13 : decode cX10_had 13 = .ok (.ifCond .ne 6, 3) := by decide +kernel
theorem dX10_had_16 : decode cX10_had 16 = .ok (.ldc 175, 2) := by decide +kernel
theorem dX10_had_18 : decode cX10_had 18 = .ok (.ireturn, 1) := by decide +kernel
theorem dX10_had_19 : decode cX10_had 19 = .ok (.iload_n 3, 1) := by decide +kernel
theorem dX10_had_20 : decode cX10_had 20 = .ok (.i2l, 1) := by decide +kernel
theorem dX10_had_21 : decode cX10_had 21 = .ok (.lconst 0, 1) := by decide +kernel
theorem dX10_had_22 : decode cX10_had 22 = .ok (.ldc2_w 276, 3) := by decide +kernel
theorem dX10_had_25 : decode cX10_had 25 = .ok (.invokestatic 65, 3) := by decide +kernel
theorem dX10_had_28 : decode cX10_had 28 = .ok (.ifCond .ne 6, 3) := by decide +kernel
theorem dX10_had_31 : decode cX10_had 31 = .ok (.ldc 80, 2) := by decide +kernel
theorem dX10_had_33 : decode cX10_had 33 = .ok (.ireturn, 1) := by decide +kernel
theorem dX10_had_34 : decode cX10_had 34 = .ok (.iconst 0, 1) := by decide +kernel
theorem dX10_had_35 : decode cX10_had 35 = .ok (.istore 4, 2) := by decide +kernel
theorem dX10_had_37 : decode cX10_had 37 = .ok (.iconst (-1), 1) := by decide +kernel
theorem dX10_had_38 : decode cX10_had 38 = .ok (.istore 5, 2) := by decide +kernel
theorem dX10_had_40 : decode cX10_had 40 = .ok (.iconst (-1), 1) := by decide +kernel
theorem dX10_had_41 : decode cX10_had 41 = .ok (.istore 6, 2) := by decide +kernel
theorem dX10_had_43 : decode cX10_had 43 = .ok (.iconst 0, 1) := by decide +kernel
theorem dX10_had_44 : decode cX10_had 44 = .ok (.istore 7, 2) := by decide +kernel
theorem dX10_had_46 : decode cX10_had 46 = .ok (.iload 7, 2) := by decide +kernel
theorem dX10_had_48 : decode cX10_had 48 = .ok (.bipush 100, 2) := by decide +kernel
theorem dX10_had_50 : decode cX10_had 50 = .ok (.if_icmp .ge 42, 3) := by decide +kernel
theorem dX10_had_53 : decode cX10_had 53 = .ok (.aload_n 0, 1) := by decide +kernel
theorem dX10_had_54 : decode cX10_had 54 = .ok (.iload_n 1, 1) := by decide +kernel
theorem dX10_had_55 : decode cX10_had 55 = .ok (.iload_n 2, 1) := by decide +kernel
theorem dX10_had_56 : decode cX10_had 56 = .ok (.iload 7, 2) := by decide +kernel
theorem dX10_had_58 : decode cX10_had 58 = .ok (.invokevirtual 278, 3) := by decide +kernel
theorem dX10_had_61 : decode cX10_had 61 = .ok (.ifCond .eq 25, 3) := by decide +kernel
theorem dX10_had_64 : decode cX10_had 64 = .ok (.iinc 4 1, 3) := by decide +kernel
theorem dX10_had_67 : decode cX10_had 67 = .ok (.iload 5, 2) := by decide +kernel
theorem dX10_had_69 : decode cX10_had 69 = .ok (.iconst (-1), 1) := by decide +kernel
theorem dX10_had_70 : decode cX10_had 70 = .ok (.if_icmp .ne 8, 3) := by decide +kernel
theorem dX10_had_73 : decode cX10_had 73 = .ok (.iload 7, 2) := by decide +kernel
theorem dX10_had_75 : decode cX10_had 75 = .ok (.goto 5, 3) := by decide +kernel
theorem dX10_had_78 : decode cX10_had 78 = .ok (.iload 5, 2) := by decide +kernel
theorem dX10_had_80 : decode cX10_had 80 = .ok (.istore 5, 2) := by decide +kernel
theorem dX10_had_82 : decode cX10_had 82 = .ok (.iload 7, 2) := by decide +kernel
theorem dX10_had_84 : decode cX10_had 84 = .ok (.istore 6, 2) := by decide +kernel
theorem dX10_had_86 : decode cX10_had 86 = .ok (.iinc 7 1, 3) := by decide +kernel
theorem dX10_had_89 : decode cX10_had 89 = .ok (.goto (-43), 3) := by decide +kernel
theorem dX10_had_92 : decode cX10_had 92 = .ok (.iload_n 3, 1) := by decide +kernel
theorem dX10_had_93 : decode cX10_had 93 = .ok (.ifCond .ne 8, 3) := by decide +kernel
theorem dX10_had_96 : decode cX10_had 96 = .ok (.iload 4, 2) := by decide +kernel
theorem dX10_had_98 : decode cX10_had 98 = .ok (.goto 15, 3) := by decide +kernel
theorem dX10_had_101 : decode cX10_had 101 = .ok (.iload_n 3, 1) := by decide +kernel
theorem dX10_had_102 : decode cX10_had 102 = .ok (.iconst 1, 1) := by decide +kernel
theorem dX10_had_103 : decode cX10_had 103 = .ok (.if_icmp .ne 8, 3) := by decide +kernel
theorem dX10_had_106 : decode cX10_had 106 = .ok (.iload 5, 2) := by decide +kernel
theorem dX10_had_108 : decode cX10_had 108 = .ok (.goto 5, 3) := by decide +kernel
theorem dX10_had_111 : decode cX10_had 111 = .ok (.iload 6, 2) := by decide +kernel
theorem dX10_had_113 : decode cX10_had 113 = .ok (.ireturn, 1) := by decide +kernel
theorem dX10_lookAt_0 : decode cX10_lookAt 0 = .ok (.aload_n 0, 1) := by decide +kernel
theorem dX10_lookAt_1 : decode cX10_lookAt 1 = .ok (.iload_n 1, 1) := by decide +kernel
theorem dX10_lookAt_2 : decode cX10_lookAt 2 = .ok (.invokevirtual 139, 3) := by decide +kernel
theorem dX10_lookAt_5 : decode cX10_lookAt 5 = .ok (.ifCond .eq 11, 3) := by decide +kernel
theorem dX10_lookAt_8 : decode cX10_lookAt 8 = .ok (.aload_n 0, 1) := by decide +kernel
theorem dX10_lookAt_9 : decode cX10_lookAt 9 = .ok (.iload_n 2, 1) := by decide +kernel
theorem dX10_lookAt_10 : decode cX10_lookAt 10 = .ok (.invokevirtual 172, 3) := by decide +kernel
theorem dX10_lookAt_13 : decode cX10_lookAt 13 = .ok (.ifCond .ne 6, 3) := by decide +kernel
theorem dX10_lookAt_16 : decode cX10_lookAt 16 = .ok (.ldc 175, 2) := by decide +kernel
theorem dX10_lookAt_18 : decode cX10_lookAt 18 = .ok (.ireturn, 1) := by decide +kernel
theorem dX10_lookAt_19 : decode cX10_lookAt 19 = .ok (.iconst (-1), 1) := by decide +kernel
theorem dX10_lookAt_20 : decode cX10_lookAt 20 = .ok (.istore_n 3, 1) := by decide +kernel
theorem dX10_lookAt_21 : decode cX10_lookAt 21 = .ok (.aload_n 0, 1) := by decide +kernel
theorem dX10_lookAt_22 : decode cX10_lookAt 22 = .ok (.iload_n 1, 1) := by decide +kernel
theorem dX10_lookAt_23 : decode cX10_lookAt 23 = .ok (.iload_n 2, 1) := by decide +kernel
theorem dX10_lookAt_24 : decode cX10_lookAt 24 = .ok (.iconst 0, 1) := by decide +kernel
theorem dX10_lookAt_25 : decode cX10_lookAt 25 = .ok (.invokevirtual 281, 3) := by decide +kernel
theorem dX10_lookAt_28 : decode cX10_lookAt 28 = .ok (.istore 4, 2) := by decide +kernel
theorem dX10_lookAt_30 : decode cX10_lookAt 30 = .ok (.iload 4, 2) := by decide +kernel
theorem dX10_lookAt_32 : decode cX10_lookAt 32 = .ok (.istore 5, 2) := by decide +kernel
theorem dX10_lookAt_34 : decode cX10_lookAt 34 = .ok (.iconst 0, 1) := by decide +kernel
theorem dX10_lookAt_35 : decode cX10_lookAt 35 = .ok (.istore 6, 2) := by decide +kernel
theorem dX10_lookAt_37 : decode cX10_lookAt 37 = .ok (.iload 6, 2) := by decide +kernel
theorem dX10_lookAt_39 : decode cX10_lookAt 39 = .ok (.bipush 13, 2) := by decide +kernel
theorem dX10_lookAt_41 : decode cX10_lookAt 41 = .ok (.if_icmp .ge 106, 3) := by decide +kernel
theorem dX10_lookAt_44 : decode cX10_lookAt 44 = .ok (.iconst 0, 1) := by decide +kernel
theorem dX10_lookAt_45 : decode cX10_lookAt 45 = .ok (.istore 7, 2) := by decide +kernel
theorem dX10_lookAt_47 : decode cX10_lookAt 47 = .ok (.iconst 0, 1) := by decide +kernel
theorem dX10_lookAt_48 : decode cX10_lookAt 48 = .ok (.istore 8, 2) := by decide +kernel
theorem dX10_lookAt_50 : decode cX10_lookAt 50 = .ok (.iload 8, 2) := by decide +kernel
theorem dX10_lookAt_52 : decode cX10_lookAt 52 = .ok (.bipush 100, 2) := by decide +kernel
theorem dX10_lookAt_54 : decode cX10_lookAt 54 = .ok (.if_icmp .ge 42, 3) := by decide +kernel
theorem dX10_lookAt_57 : decode cX10_lookAt 57 = .ok (.iload 7, 2) := by decide +kernel
theorem dX10_lookAt_59 : decode cX10_lookAt 59 = .ok (.aload_n 0, 1) := by decide +kernel
theorem dX10_lookAt_60 : decode cX10_lookAt 60 = .ok (.iload_n 1, 1) := by decide +kernel
theorem dX10_lookAt_61 : decode cX10_lookAt 61 = .ok (.iload_n 2, 1) := by decide +kernel
theorem dX10_lookAt_62 : decode cX10_lookAt 62 = .ok (.iload 8, 2) := by decide +kernel
theorem dX10_lookAt_64 : decode cX10_lookAt 64 = .ok (.invokevirtual 278, 3) := by decide +kernel
theorem dX10_lookAt_67 : decode cX10_lookAt 67 = .ok (.ifCond .eq 19, 3) := by decide +kernel
theorem dX10_lookAt_70 : decode cX10_lookAt 70 = .ok (.aload_n 0, 1) := by decide +kernel
theorem dX10_lookAt_71 : decode cX10_lookAt 71 = .ok (.iload_n 2, 1) := by decide +kernel
theorem dX10_lookAt_72 : decode cX10_lookAt 72 = .ok (.iload 8, 2) := by decide +kernel
theorem dX10_lookAt_74 : decode cX10_lookAt 74 = .ok (.iload 6, 2) := by decide +kernel
theorem dX10_lookAt_76 : decode cX10_lookAt 76 = .ok (.invokevirtual 273, 3) := by decide +kernel
theorem dX10_lookAt_79 : decode cX10_lookAt 79 = .ok (.ifCond .eq 7, 3) := by decide +kernel
theorem dX10_lookAt_82 : decode cX10_lookAt 82 = .ok (.iconst 1, 1) := by decide +kernel
theorem dX10_lookAt_83 : decode cX10_lookAt 83 = .ok (.goto 4, 3) := by decide +kernel
theorem dX10_lookAt_86 : decode cX10_lookAt 86 = .ok (.iconst 0, 1) := by decide +kernel
theorem dX10_lookAt_87 : decode cX10_lookAt 87 = .ok (.iadd, 1) := by decide +kernel
theorem dX10_lookAt_88 : decode cX10_lookAt 88 = .ok (.istore 7, 2) := by decide +kernel
theorem dX10_lookAt_90 : decode cX10_lookAt 90 = .ok (.iinc 8 1, 3) := by decide +kernel
theorem dX10_lookAt_93 : decode cX10_lookAt 93 = .ok (.goto (-43), 3) := by decide +kernel
theorem dX10_lookAt_96 : decode cX10_lookAt 96 = .ok (.iload 7, 2) := by decide +kernel
theorem dX10_lookAt_98 : decode cX10_lookAt 98 = .ok (.iload 5, 2) := by decide +kernel
theorem dX10_lookAt_100 : decode cX10_lookAt 100 = .ok (.iload 7, 2) := by decide +kernel
theorem dX10_lookAt_102 : decode cX10_lookAt 102 = .ok (.isub, 1) := by decide +kernel
theorem dX10_lookAt_103 : decode cX10_lookAt 103 = .ok (.if_icmp .le 8, 3) := by decide +kernel
theorem dX10_lookAt_106 : decode cX10_lookAt 106 = .ok (.iload 7, 2) := by decide +kernel
theorem dX10_lookAt_108 : decode cX10_lookAt 108 = .ok (.goto 8, 3) := by decide +kernel
theorem dX10_lookAt_111 : decode cX10_lookAt 111 = .ok (.iload 5, 2) := by decide +kernel
theorem dX10_lookAt_113 : decode cX10_lookAt 113 = .ok (.iload 7, 2) := by decide +kernel
theorem dX10_lookAt_115 : decode cX10_lookAt 115 = .ok (.isub, 1) := by decide +kernel
theorem dX10_lookAt_116 : decode cX10_lookAt 116 = .ok (.istore 8, 2) := by decide +kernel
theorem dX10_lookAt_118 : decode cX10_lookAt 118 = .ok (.iload 8, 2) := by decide +kernel
theorem dX10_lookAt_120 : decode cX10_lookAt 120 = .ok (.iload 4, 2) := by decide +kernel
theorem dX10_lookAt_122 : decode cX10_lookAt 122 = .ok (.if_icmp .ge 8, 3) := by decide +kernel
theorem dX10_lookAt_125 : decode cX10_lookAt 125 = .ok (.iload 6, 2) := by decide +kernel
theorem dX10_lookAt_127 : decode cX10_lookAt 127 = .ok (.goto 4, 3) := by decide +kernel
theorem dX10_lookAt_130 : decode cX10_lookAt 130 = .ok (.iload_n 3, 1) := by decide +kernel
theorem dX10_lookAt_131 : decode cX10_lookAt 131 = .ok (.istore_n 3, 1) := by decide +kernel
theorem dX10_lookAt_132 : decode cX10_lookAt 132 = .ok (.iload 4, 2) := by decide +kernel
theorem dX10_lookAt_134 : decode cX10_lookAt 134 = .ok (.iload 8, 2) := by decide +kernel
theorem dX10_lookAt_136 : decode cX10_lookAt 136 = .ok (.invokestatic 150, 3) := by decide +kernel
theorem dX10_lookAt_139 : decode cX10_lookAt 139 = .ok (.istore 4, 2) := by decide +kernel
theorem dX10_lookAt_141 : decode cX10_lookAt 141 = .ok (.iinc 6 1, 3) := by decide +kernel
theorem dX10_lookAt_144 : decode cX10_lookAt 144 = .ok (.goto (-107), 3) := by decide +kernel
theorem dX10_lookAt_147 : decode cX10_lookAt 147 = .ok (.iload_n 3, 1) := by decide +kernel
theorem dX10_lookAt_148 : decode cX10_lookAt 148 = .ok (.ireturn, 1) := by decide +kernel
theorem dX10_write_0 : decode cX10_write 0 = .ok (.aload_n 0, 1) := by decide +kernel
theorem dX10_write_1 : decode cX10_write 1 = .ok (.iload_n 1, 1) := by decide +kernel
theorem dX10_write_2 : decode cX10_write 2 = .ok (.invokevirtual 139, 3) := by decide +kernel
theorem dX10_write_5 : decode cX10_write 5 = .ok (.ifCond .ne 6, 3) := by decide +kernel
theorem dX10_write_8 : decode cX10_write 8 = .ok (.ldc 175, 2) := by decide +kernel
theorem dX10_write_10 : decode cX10_write 10 = .ok (.ireturn, 1) := by decide +kernel
theorem dX10_write_11 : decode cX10_write 11 = .ok (.iload_n 2, 1) := by decide +kernel
theorem dX10_write_12 : decode cX10_write 12 = .ok (.i2l, 1) := by decide +kernel
theorem dX10_write_13 : decode cX10_write 13 = .ok (.ldc2_w 284, 3) := by decide +kernel
theorem dX10_write_16 : decode cX10_write 16 = .ok (.ldc2_w 286, 3) := by decide +kernel
theorem dX10_write_19 : decode cX10_write 19 = .ok (.invokestatic 65, 3) := by decide +kernel
theorem dX10_write_22 : decode cX10_write 22 = .ok (.ifCond .ne 6, 3) := by decide +kernel
theorem dX10_write_25 : decode cX10_write 25 = .ok (.ldc 80, 2) := by decide +kernel
theorem dX10_write_27 : decode cX10_write 27 = .ok (.ireturn, 1) := by decide +kernel
theorem dX10_write_28 : decode cX10_write 28 = .ok (.aload_n 0, 1) := by decide +kernel
theorem dX10_write_29 : decode cX10_write 29 = .ok (.getfield 75, 3) := by decide +kernel
theorem dX10_write_32 : decode cX10_write 32 = .ok (.bipush 20, 2) := by decide +kernel
theorem dX10_write_34 : decode cX10_write 34 = .ok (.if_icmp .ne 6, 3) := by decide +kernel
theorem dX10_write_37 : decode cX10_write 37 = .ok (.ldc 84, 2) := by decide +kernel
theorem dX10_write_39 : decode cX10_write 39 = .ok (.ireturn, 1) := by decide +kernel
theorem dX10_write_40 : decode cX10_write 40 = .ok (.aload_n 0, 1) := by decide +kernel
theorem dX10_write_41 : decode cX10_write 41 = .ok (.getfield 42, 3) := by decide +kernel
theorem dX10_write_44 : decode cX10_write 44 = .ok (.iconst 2, 1) := by decide +kernel
theorem dX10_write_45 : decode cX10_write 45 = .ok (.aload_n 0, 1) := by decide +kernel
theorem dX10_write_46 : decode cX10_write 46 = .ok (.getfield 75, 3) := by decide +kernel
theorem dX10_write_49 : decode cX10_write 49 = .ok (.imul, 1) := by decide +kernel
theorem dX10_write_50 : decode cX10_write 50 = .ok (.iload_n 1, 1) := by decide +kernel
theorem dX10_write_51 : decode cX10_write 51 = .ok (.iastore, 1) := by decide +kernel
theorem dX10_write_52 : decode cX10_write 52 = .ok (.aload_n 0, 1) := by decide +kernel
theorem dX10_write_53 : decode cX10_write 53 = .ok (.getfield 42, 3) := by decide +kernel
theorem dX10_write_56 : decode cX10_write 56 = .ok (.iconst 2, 1) := by decide +kernel
theorem dX10_write_57 : decode cX10_write 57 = .ok (.aload_n 0, 1) := by decide +kernel
theorem dX10_write_58 : decode cX10_write 58 = .ok (.getfield 75, 3) := by decide +kernel
theorem dX10_write_61 : decode cX10_write 61 = .ok (.imul, 1) := by decide +kernel
theorem dX10_write_62 : decode cX10_write 62 = .ok (.iconst 1, 1) := by decide +kernel
theorem dX10_write_63 : decode cX10_write 63 = .ok (.iadd, 1) := by decide +kernel
theorem dX10_write_64 : decode cX10_write 64 = .ok (.iload_n 2, 1) := by decide +kernel
theorem dX10_write_65 : decode cX10_write 65 = .ok (.iastore, 1) := by decide +kernel
theorem dX10_write_66 : decode cX10_write 66 = .ok (.aload_n 0, 1) := by decide +kernel
theorem dX10_write_67 : decode cX10_write 67 = .ok (.dup, 1) := by decide +kernel
theorem dX10_write_68 : decode cX10_write 68 = .ok (.getfield 75, 3) := by decide +kernel
theorem dX10_write_71 : decode cX10_write 71 = .ok (.iconst 1, 1) := by decide +kernel
theorem dX10_write_72 : decode cX10_write 72 = .ok (.iadd, 1) := by decide +kernel
theorem dX10_write_73 : decode cX10_write 73 = .ok (.putfield 75, 3) := by decide +kernel
theorem dX10_write_76 : decode cX10_write 76 = .ok (.aload_n 0, 1) := by decide +kernel
theorem dX10_write_77 : decode cX10_write 77 = .ok (.getfield 75, 3) := by decide +kernel
theorem dX10_write_80 : decode cX10_write 80 = .ok (.ireturn, 1) := by decide +kernel
theorem dX10_judge_0 : decode cX10_judge 0 = .ok (.iconst 0, 1) := by decide +kernel
theorem dX10_judge_1 : decode cX10_judge 1 = .ok (.istore_n 1, 1) := by decide +kernel
theorem dX10_judge_2 : decode cX10_judge 2 = .ok (.iload_n 1, 1) := by decide +kernel
theorem dX10_judge_3 : decode cX10_judge 3 = .ok (.aload_n 0, 1) := by decide +kernel
theorem dX10_judge_4 : decode cX10_judge 4 = .ok (.getfield 75, 3) := by decide +kernel
theorem dX10_judge_7 : decode cX10_judge 7 = .ok (.if_icmp .ge 40, 3) := by decide +kernel
theorem dX10_judge_10 : decode cX10_judge 10 = .ok (.aload_n 0, 1) := by decide +kernel
theorem dX10_judge_11 : decode cX10_judge 11 = .ok (.aload_n 0, 1) := by decide +kernel
theorem dX10_judge_12 : decode cX10_judge 12 = .ok (.getfield 16, 3) := by decide +kernel
theorem dX10_judge_15 : decode cX10_judge 15 = .ok (.aload_n 0, 1) := by decide +kernel
theorem dX10_judge_16 : decode cX10_judge 16 = .ok (.getfield 42, 3) := by decide +kernel
theorem dX10_judge_19 : decode cX10_judge 19 = .ok (.iconst 2, 1) := by decide +kernel
theorem dX10_judge_20 : decode cX10_judge 20 = .ok (.iload_n 1, 1) := by decide +kernel
theorem dX10_judge_21 : decode cX10_judge 21 = .ok (.imul, 1) := by decide +kernel
theorem dX10_judge_22 : decode cX10_judge 22 = .ok (.iaload, 1) := by decide +kernel
theorem dX10_judge_23 : decode cX10_judge 23 = .ok (.invokevirtual 179, 3) := by decide +kernel
theorem dX10_judge_26 : decode cX10_judge 26 = .ok (.aload_n 0, 1) := by decide +kernel
theorem dX10_judge_27 : decode cX10_judge 27 = .ok (.getfield 42, 3) := by decide +kernel
theorem dX10_judge_30 : decode cX10_judge 30 = .ok (.iconst 2, 1) := by decide +kernel
theorem dX10_judge_31 : decode cX10_judge 31 = .ok (.iload_n 1, 1) := by decide +kernel
theorem dX10_judge_32 : decode cX10_judge 32 = .ok (.imul, 1) := by decide +kernel
theorem dX10_judge_33 : decode cX10_judge 33 = .ok (.iconst 1, 1) := by decide +kernel
theorem dX10_judge_34 : decode cX10_judge 34 = .ok (.iadd, 1) := by decide +kernel
theorem dX10_judge_35 : decode cX10_judge 35 = .ok (.iaload, 1) := by decide +kernel
theorem dX10_judge_36 : decode cX10_judge 36 = .ok (.if_icmp .eq 5, 3) := by decide +kernel
theorem dX10_judge_39 : decode cX10_judge 39 = .ok (.iload_n 1, 1) := by decide +kernel
theorem dX10_judge_40 : decode cX10_judge 40 = .ok (.ireturn, 1) := by decide +kernel
theorem dX10_judge_41 : decode cX10_judge 41 = .ok (.iinc 1 1, 3) := by decide +kernel
theorem dX10_judge_44 : decode cX10_judge 44 = .ok (.goto (-42), 3) := by decide +kernel
theorem dX10_judge_47 : decode cX10_judge 47 = .ok (.iconst (-1), 1) := by decide +kernel
theorem dX10_judge_48 : decode cX10_judge 48 = .ok (.ireturn, 1) := by decide +kernel
theorem dX10_tear_0 : decode cX10_tear 0 = .ok (.aload_n 0, 1) := by decide +kernel
theorem dX10_tear_1 : decode cX10_tear 1 = .ok (.getfield 72, 3) := by decide +kernel
theorem dX10_tear_4 : decode cX10_tear 4 = .ok (.aload_n 0, 1) := by decide +kernel
theorem dX10_tear_5 : decode cX10_tear 5 = .ok (.getfield 75, 3) := by decide +kernel
theorem dX10_tear_8 : decode cX10_tear 8 = .ok (.iadd, 1) := by decide +kernel
theorem dX10_tear_9 : decode cX10_tear 9 = .ok (.istore_n 1, 1) := by decide +kernel
theorem dX10_tear_10 : decode cX10_tear 10 = .ok (.aload_n 0, 1) := by decide +kernel
theorem dX10_tear_11 : decode cX10_tear 11 = .ok (.iconst 0, 1) := by decide +kernel
theorem dX10_tear_12 : decode cX10_tear 12 = .ok (.putfield 72, 3) := by decide +kernel
theorem dX10_tear_15 : decode cX10_tear 15 = .ok (.aload_n 0, 1) := by decide +kernel
theorem dX10_tear_16 : decode cX10_tear 16 = .ok (.iconst 0, 1) := by decide +kernel
theorem dX10_tear_17 : decode cX10_tear 17 = .ok (.putfield 75, 3) := by decide +kernel
theorem dX10_tear_20 : decode cX10_tear 20 = .ok (.iload_n 1, 1) := by decide +kernel
theorem dX10_tear_21 : decode cX10_tear 21 = .ok (.ireturn, 1) := by decide +kernel
theorem dX10_seed_0 : decode cX10_seed 0 = .ok (.iload_n 1, 1) := by decide +kernel
theorem dX10_seed_1 : decode cX10_seed 1 = .ok (.ifCond .ge 6, 3) := by decide +kernel
theorem dX10_seed_4 : decode cX10_seed 4 = .ok (.ldc 80, 2) := by decide +kernel
theorem dX10_seed_6 : decode cX10_seed 6 = .ok (.ireturn, 1) := by decide +kernel
theorem dX10_seed_7 : decode cX10_seed 7 = .ok (.aload_n 0, 1) := by decide +kernel
theorem dX10_seed_8 : decode cX10_seed 8 = .ok (.getfield 225, 3) := by decide +kernel
theorem dX10_seed_11 : decode cX10_seed 11 = .ok (.l2i, 1) := by decide +kernel
theorem dX10_seed_12 : decode cX10_seed 12 = .ok (.istore_n 2, 1) := by decide +kernel
theorem dX10_seed_13 : decode cX10_seed 13 = .ok (.aload_n 0, 1) := by decide +kernel
theorem dX10_seed_14 : decode cX10_seed 14 = .ok (.iload_n 1, 1) := by decide +kernel
theorem dX10_seed_15 : decode cX10_seed 15 = .ok (.i2l, 1) := by decide +kernel
theorem dX10_seed_16 : decode cX10_seed 16 = .ok (.putfield 225, 3) := by decide +kernel
theorem dX10_seed_19 : decode cX10_seed 19 = .ok (.iload_n 2, 1) := by decide +kernel
theorem dX10_seed_20 : decode cX10_seed 20 = .ok (.ireturn, 1) := by decide +kernel
theorem dX10_keep_0 : decode cX10_keep 0 = .ok (.iload_n 1, 1) := by decide +kernel
theorem dX10_keep_1 : decode cX10_keep 1 = .ok (.i2l, 1) := by decide +kernel
theorem dX10_keep_2 : decode cX10_keep 2 = .ok (.lconst 0, 1) := by decide +kernel
theorem dX10_keep_3 : decode cX10_keep 3 = .ok (.lconst 1, 1) := by decide +kernel
theorem dX10_keep_4 : decode cX10_keep 4 = .ok (.invokestatic 65, 3) := by decide +kernel
theorem dX10_keep_7 : decode cX10_keep 7 = .ok (.ifCond .ne 6, 3) := by decide +kernel
theorem dX10_keep_10 : decode cX10_keep 10 = .ok (.ldc 175, 2) := by decide +kernel
theorem dX10_keep_12 : decode cX10_keep 12 = .ok (.ireturn, 1) := by decide +kernel
theorem dX10_keep_13 : decode cX10_keep 13 = .ok (.aload_n 0, 1) := by decide +kernel
theorem dX10_keep_14 : decode cX10_keep 14 = .ok (.getfield 16, 3) := by decide +kernel
theorem dX10_keep_17 : decode cX10_keep 17 = .ok (.iconst 0, 1) := by decide +kernel
theorem dX10_keep_18 : decode cX10_keep 18 = .ok (.aload_n 0, 1) := by decide +kernel
theorem dX10_keep_19 : decode cX10_keep 19 = .ok (.getfield 25, 3) := by decide +kernel
theorem dX10_keep_22 : decode cX10_keep 22 = .ok (.bipush 55, 2) := by decide +kernel
theorem dX10_keep_24 : decode cX10_keep 24 = .ok (.iload_n 1, 1) := by decide +kernel
theorem dX10_keep_25 : decode cX10_keep 25 = .ok (.imul, 1) := by decide +kernel
theorem dX10_keep_26 : decode cX10_keep 26 = .ok (.bipush 54, 2) := by decide +kernel
theorem dX10_keep_28 : decode cX10_keep 28 = .ok (.invokestatic 57, 3) := by decide +kernel
theorem dX10_keep_31 : decode cX10_keep 31 = .ok (.aload_n 0, 1) := by decide +kernel
theorem dX10_keep_32 : decode cX10_keep 32 = .ok (.getfield 25, 3) := by decide +kernel
theorem dX10_keep_35 : decode cX10_keep 35 = .ok (.bipush 55, 2) := by decide +kernel
theorem dX10_keep_37 : decode cX10_keep 37 = .ok (.iload_n 1, 1) := by decide +kernel
theorem dX10_keep_38 : decode cX10_keep 38 = .ok (.imul, 1) := by decide +kernel
theorem dX10_keep_39 : decode cX10_keep 39 = .ok (.bipush 54, 2) := by decide +kernel
theorem dX10_keep_41 : decode cX10_keep 41 = .ok (.iadd, 1) := by decide +kernel
theorem dX10_keep_42 : decode cX10_keep 42 = .ok (.aload_n 0, 1) := by decide +kernel
theorem dX10_keep_43 : decode cX10_keep 43 = .ok (.getfield 225, 3) := by decide +kernel
theorem dX10_keep_46 : decode cX10_keep 46 = .ok (.l2i, 1) := by decide +kernel
theorem dX10_keep_47 : decode cX10_keep 47 = .ok (.iastore, 1) := by decide +kernel
theorem dX10_keep_48 : decode cX10_keep 48 = .ok (.aload_n 0, 1) := by decide +kernel
theorem dX10_keep_49 : decode cX10_keep 49 = .ok (.getfield 28, 3) := by decide +kernel
theorem dX10_keep_52 : decode cX10_keep 52 = .ok (.iload_n 1, 1) := by decide +kernel
theorem dX10_keep_53 : decode cX10_keep 53 = .ok (.iconst 1, 1) := by decide +kernel
theorem dX10_keep_54 : decode cX10_keep 54 = .ok (.bastore, 1) := by decide +kernel
theorem dX10_keep_55 : decode cX10_keep 55 = .ok (.aload_n 0, 1) := by decide +kernel
theorem dX10_keep_56 : decode cX10_keep 56 = .ok (.iconst 0, 1) := by decide +kernel
theorem dX10_keep_57 : decode cX10_keep 57 = .ok (.putfield 69, 3) := by decide +kernel
theorem dX10_keep_60 : decode cX10_keep 60 = .ok (.iconst 1, 1) := by decide +kernel
theorem dX10_keep_61 : decode cX10_keep 61 = .ok (.ireturn, 1) := by decide +kernel
theorem dX10_goBack_0 : decode cX10_goBack 0 = .ok (.iload_n 1, 1) := by decide +kernel
theorem dX10_goBack_1 : decode cX10_goBack 1 = .ok (.i2l, 1) := by decide +kernel
theorem dX10_goBack_2 : decode cX10_goBack 2 = .ok (.lconst 0, 1) := by decide +kernel
theorem dX10_goBack_3 : decode cX10_goBack 3 = .ok (.lconst 1, 1) := by decide +kernel
theorem dX10_goBack_4 : decode cX10_goBack 4 = .ok (.invokestatic 65, 3) := by decide +kernel
theorem dX10_goBack_7 : decode cX10_goBack 7 = .ok (.ifCond .ne 6, 3) := by decide +kernel
theorem dX10_goBack_10 : decode cX10_goBack 10 = .ok (.ldc 175, 2) := by decide +kernel
theorem dX10_goBack_12 : decode cX10_goBack 12 = .ok (.ireturn, 1) := by decide +kernel
theorem dX10_goBack_13 : decode cX10_goBack 13 = .ok (.aload_n 0, 1) := by decide +kernel
theorem dX10_goBack_14 : decode cX10_goBack 14 = .ok (.getfield 28, 3) := by decide +kernel
theorem dX10_goBack_17 : decode cX10_goBack 17 = .ok (.iload_n 1, 1) := by decide +kernel
theorem dX10_goBack_18 : decode cX10_goBack 18 = .ok (.baload, 1) := by decide +kernel
theorem dX10_goBack_19 : decode cX10_goBack 19 = .ok (.ifCond .ne 6, 3) := by decide +kernel
theorem dX10_goBack_22 : decode cX10_goBack 22 = .ok (.ldc 193, 2) := by decide +kernel
theorem dX10_goBack_24 : decode cX10_goBack 24 = .ok (.ireturn, 1) := by decide +kernel
theorem dX10_goBack_25 : decode cX10_goBack 25 = .ok (.aload_n 0, 1) := by decide +kernel
theorem dX10_goBack_26 : decode cX10_goBack 26 = .ok (.getfield 25, 3) := by decide +kernel
theorem dX10_goBack_29 : decode cX10_goBack 29 = .ok (.bipush 55, 2) := by decide +kernel
theorem dX10_goBack_31 : decode cX10_goBack 31 = .ok (.iload_n 1, 1) := by decide +kernel
theorem dX10_goBack_32 : decode cX10_goBack 32 = .ok (.imul, 1) := by decide +kernel
theorem dX10_goBack_33 : decode cX10_goBack 33 = .ok (.aload_n 0, 1) := by decide +kernel
theorem dX10_goBack_34 : decode cX10_goBack 34 = .ok (.getfield 16, 3) := by decide +kernel
theorem dX10_goBack_37 : decode cX10_goBack 37 = .ok (.iconst 0, 1) := by decide +kernel
theorem dX10_goBack_38 : decode cX10_goBack 38 = .ok (.bipush 54, 2) := by decide +kernel
theorem dX10_goBack_40 : decode cX10_goBack 40 = .ok (.invokestatic 57, 3) := by decide +kernel
theorem dX10_goBack_43 : decode cX10_goBack 43 = .ok (.aload_n 0, 1) := by decide +kernel
theorem dX10_goBack_44 : decode cX10_goBack 44 = .ok (.aload_n 0, 1) := by decide +kernel
theorem dX10_goBack_45 : decode cX10_goBack 45 = .ok (.getfield 25, 3) := by decide +kernel
theorem dX10_goBack_48 : decode cX10_goBack 48 = .ok (.bipush 55, 2) := by decide +kernel
theorem dX10_goBack_50 : decode cX10_goBack 50 = .ok (.iload_n 1, 1) := by decide +kernel
theorem dX10_goBack_51 : decode cX10_goBack 51 = .ok (.imul, 1) := by decide +kernel
theorem dX10_goBack_52 : decode cX10_goBack 52 = .ok (.bipush 54, 2) := by decide +kernel
theorem dX10_goBack_54 : decode cX10_goBack 54 = .ok (.iadd, 1) := by decide +kernel
theorem dX10_goBack_55 : decode cX10_goBack 55 = .ok (.iaload, 1) := by decide +kernel
theorem dX10_goBack_56 : decode cX10_goBack 56 = .ok (.i2l, 1) := by decide +kernel
theorem dX10_goBack_57 : decode cX10_goBack 57 = .ok (.putfield 225, 3) := by decide +kernel
theorem dX10_goBack_60 : decode cX10_goBack 60 = .ok (.aload_n 0, 1) := by decide +kernel
theorem dX10_goBack_61 : decode cX10_goBack 61 = .ok (.iconst 0, 1) := by decide +kernel
theorem dX10_goBack_62 : decode cX10_goBack 62 = .ok (.putfield 69, 3) := by decide +kernel
theorem dX10_goBack_65 : decode cX10_goBack 65 = .ok (.iconst 1, 1) := by decide +kernel
theorem dX10_goBack_66 : decode cX10_goBack 66 = .ok (.ireturn, 1) := by decide +kernel
