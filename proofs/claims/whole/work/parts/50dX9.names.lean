theorem dX9_init_0 : decode cX9_init 0 = .ok (.aload_n 0, 1) := by decide +kernel
theorem dX9_init_1 : decode cX9_init 1 = .ok (.invokespecial 1, 3) := by decide +kernel
theorem dX9_init_4 : decode cX9_init 4 = .ok (.aload_n 0, 1) := by decide +kernel
theorem dX9_init_5 : decode cX9_init 5 = .ok (.new 7, 3) := by decide +kernel
theorem dX9_init_8 : decode cX9_init 8 = .ok (.dup, 1) := by decide +kernel
theorem dX9_init_9 : decode cX9_init 9 = .ok (.invokespecial 9, 3) := by decide +kernel
theorem dX9_init_12 : decode cX9_init 12 = .ok (.putfield 10, 3) := by decide +kernel
theorem dX9_init_15 : decode cX9_init 15 = .ok (.aload_n 0, 1) := by decide +kernel
theorem dX9_init_16 : decode cX9_init 16 = .ok (.new 16, 3) := by decide +kernel
theorem dX9_init_19 : decode cX9_init 19 = .ok (.dup, 1) := by decide +kernel
theorem dX9_init_20 : decode cX9_init 20 = .ok (.invokespecial 18, 3) := by decide +kernel
theorem dX9_init_23 : decode cX9_init 23 = .ok (.putfield 19, 3) := by decide +kernel
theorem dX9_init_26 : decode cX9_init 26 = .ok (.aload_n 0, 1) := by decide +kernel
theorem dX9_init_27 : decode cX9_init 27 = .ok (.new 23, 3) := by decide +kernel
theorem dX9_init_30 : decode cX9_init 30 = .ok (.dup, 1) := by decide +kernel
theorem dX9_init_31 : decode cX9_init 31 = .ok (.aload_n 0, 1) := by decide +kernel
theorem dX9_init_32 : decode cX9_init 32 = .ok (.getfield 19, 3) := by decide +kernel
theorem dX9_init_35 : decode cX9_init 35 = .ok (.invokespecial 25, 3) := by decide +kernel
theorem dX9_init_38 : decode cX9_init 38 = .ok (.putfield 28, 3) := by decide +kernel
theorem dX9_init_41 : decode cX9_init 41 = .ok (.aload_n 0, 1) := by decide +kernel
theorem dX9_init_42 : decode cX9_init 42 = .ok (.new 23, 3) := by decide +kernel
theorem dX9_init_45 : decode cX9_init 45 = .ok (.dup, 1) := by decide +kernel
theorem dX9_init_46 : decode cX9_init 46 = .ok (.aload_n 0, 1) := by decide +kernel
theorem dX9_init_47 : decode cX9_init 47 = .ok (.getfield 19, 3) := by decide +kernel
theorem dX9_init_50 : decode cX9_init 50 = .ok (.invokespecial 25, 3) := by decide +kernel
theorem dX9_init_53 : decode cX9_init 53 = .ok (.putfield 32, 3) := by decide +kernel
theorem dX9_init_56 : decode cX9_init 56 = .ok (.aload_n 0, 1) := by decide +kernel
theorem dX9_init_57 : decode cX9_init 57 = .ok (.new 35, 3) := by decide +kernel
theorem dX9_init_60 : decode cX9_init 60 = .ok (.dup, 1) := by decide +kernel
theorem dX9_init_61 : decode cX9_init 61 = .ok (.aload_n 0, 1) := by decide +kernel
theorem dX9_init_62 : decode cX9_init 62 = .ok (.getfield 19, 3) := by decide +kernel
theorem dX9_init_65 : decode cX9_init 65 = .ok (.invokespecial 37, 3) := by decide +kernel
theorem dX9_init_68 : decode cX9_init 68 = .ok (.putfield 38, 3) := by decide +kernel
theorem dX9_init_71 : decode cX9_init 71 = .ok (.aload_n 0, 1) := by decide +kernel
theorem dX9_init_72 : decode cX9_init 72 = .ok (.new 42, 3) := by decide +kernel
theorem dX9_init_75 : decode cX9_init 75 = .ok (.dup, 1) := by decide +kernel
theorem dX9_init_76 : decode cX9_init 76 = .ok (.invokespecial 44, 3) := by decide +kernel
theorem dX9_init_79 : decode cX9_init 79 = .ok (.putfield 45, 3) := by decide +kernel
theorem dX9_init_82 : decode cX9_init 82 = .ok (.aload_n 0, 1) := by decide +kernel
theorem dX9_init_83 : decode cX9_init 83 = .ok (.new 49, 3) := by decide +kernel
theorem dX9_init_86 : decode cX9_init 86 = .ok (.dup, 1) := by decide +kernel
theorem dX9_init_87 : decode cX9_init 87 = .ok (.invokespecial 51, 3) := by decide +kernel
theorem dX9_init_90 : decode cX9_init 90 = .ok (.putfield 52, 3) := by decide +kernel
theorem dX9_init_93 : decode cX9_init 93 = .ok (.aload_n 0, 1) := by decide +kernel
theorem dX9_init_94 : decode cX9_init 94 = .ok (.new 56, 3) := by decide +kernel
theorem dX9_init_97 : decode cX9_init 97 = .ok (.dup, 1) := by decide +kernel
theorem dX9_init_98 : decode cX9_init 98 = .ok (.invokespecial 58, 3) := by decide +kernel
theorem dX9_init_101 : decode cX9_init 101 = .ok (.putfield 59, 3) := by decide +kernel
theorem dX9_init_104 : decode cX9_init 104 = .ok (.aload_n 0, 1) := by decide +kernel
theorem dX9_init_105 : decode cX9_init 105 = .ok (.new 63, 3) := by decide +kernel
theorem dX9_init_108 : decode cX9_init 108 = .ok (.dup, 1) := by decide +kernel
theorem dX9_init_109 : decode cX9_init 109 = .ok (.invokespecial 65, 3) := by decide +kernel
theorem dX9_init_112 : decode cX9_init 112 = .ok (.putfield 66, 3) := by decide +kernel
theorem dX9_init_115 : decode cX9_init 115 = .ok (.aload_n 0, 1) := by decide +kernel
theorem dX9_init_116 : decode cX9_init 116 = .ok (.iconst 2, 1) := by decide +kernel
theorem dX9_init_117 : decode cX9_init 117 = .ok (.anewarray 70, 3) := by decide +kernel
theorem dX9_init_120 : decode cX9_init 120 = .ok (.putfield 72, 3) := by decide +kernel
theorem dX9_init_123 : decode cX9_init 123 = .ok (.iconst 0, 1) := by decide +kernel
theorem dX9_init_124 : decode cX9_init 124 = .ok (.istore_n 1, 1) := by decide +kernel
theorem dX9_init_125 : decode cX9_init 125 = .ok (.iload_n 1, 1) := by decide +kernel
theorem dX9_init_126 : decode cX9_init 126 = .ok (.iconst 2, 1) := by decide +kernel
theorem dX9_init_127 : decode cX9_init 127 = .ok (.if_icmp .ge 26, 3) := by decide +kernel
theorem dX9_init_130 : decode cX9_init 130 = .ok (.aload_n 0, 1) := by decide +kernel
theorem dX9_init_131 : decode cX9_init 131 = .ok (.getfield 72, 3) := by decide +kernel
theorem dX9_init_134 : decode cX9_init 134 = .ok (.iload_n 1, 1) := by decide +kernel
theorem dX9_init_135 : decode cX9_init 135 = .ok (.new 70, 3) := by decide +kernel
theorem dX9_init_138 : decode cX9_init 138 = .ok (.dup, 1) := by decide +kernel
theorem dX9_init_139 : decode cX9_init 139 = .ok (.aload_n 0, 1) := by decide +kernel
theorem dX9_init_140 : decode cX9_init 140 = .ok (.getfield 19, 3) := by decide +kernel
theorem dX9_init_143 : decode cX9_init 143 = .ok (.invokespecial 76, 3) := by decide +kernel
theorem dX9_init_146 : decode cX9_init 146 = .ok (.aastore, 1) := by decide +kernel
theorem dX9_init_147 : decode cX9_init 147 = .ok (.iinc 1 1, 3) := by decide +kernel
theorem dX9_init_150 : decode cX9_init 150 = .ok (.goto (-25), 3) := by decide +kernel
theorem dX9_init_153 : decode cX9_init 153 = .ok (.aload_n 0, 1) := by decide +kernel
theorem dX9_init_154 : decode cX9_init 154 = .ok (.iconst 0, 1) := by decide +kernel
theorem dX9_init_155 : decode cX9_init 155 = .ok (.putfield 77, 3) := by decide +kernel
theorem dX9_init_158 : decode cX9_init 158 = .ok (.return_, 1) := by decide +kernel
theorem dX9_feed_0 : decode cX9_feed 0 = .ok (.iload_n 1, 1) := by decide +kernel
theorem dX9_feed_1 : decode cX9_feed 1 = .ok (.ifCond .lt 10, 3) := by decide +kernel
theorem dX9_feed_4 : decode cX9_feed 4 = .ok (.iload_n 1, 1) := by decide +kernel
theorem dX9_feed_5 : decode cX9_feed 5 = .ok (.sipush 255, 3) := by decide +kernel
theorem dX9_feed_8 : decode cX9_feed 8 = .ok (.if_icmp .le 6, 3) := by decide +kernel
theorem dX9_feed_11 : decode cX9_feed 11 = .ok (.ldc 81, 2) := by decide +kernel
theorem dX9_feed_13 : decode cX9_feed 13 = .ok (.ireturn, 1) := by decide +kernel
theorem dX9_feed_14 : decode cX9_feed 14 = .ok (.aload_n 0, 1) := by decide +kernel
theorem dX9_feed_15 : decode cX9_feed 15 = .ok (.getfield 10, 3) := by decide +kernel
theorem dX9_feed_18 : decode cX9_feed 18 = .ok (.iload_n 1, 1) := by decide +kernel
theorem dX9_feed_19 : decode cX9_feed 19 = .ok (.invokevirtual 82, 3) := by decide +kernel
theorem dX9_feed_22 : decode cX9_feed 22 = .ok (.ifCond .eq 13, 3) := by decide +kernel
theorem dX9_feed_25 : decode cX9_feed 25 = .ok (.aload_n 0, 1) := by decide +kernel
theorem dX9_feed_26 : decode cX9_feed 26 = .ok (.getfield 10, 3) := by decide +kernel
theorem dX9_feed_29 : decode cX9_feed 29 = .ok (.getfield 86, 3) := by decide +kernel
theorem dX9_feed_32 : decode cX9_feed 32 = .ok (.goto 5, 3) := by decide +kernel
theorem dX9_feed_35 : decode cX9_feed 35 = .ok (.ldc 89, 2) := by decide +kernel
theorem dX9_feed_37 : decode cX9_feed 37 = .ok (.ireturn, 1) := by decide +kernel
theorem dX9_town_0 : decode cX9_town 0 = .ok (.aload_n 0, 1) := by decide +kernel
theorem dX9_town_1 : decode cX9_town 1 = .ok (.getfield 10, 3) := by decide +kernel
theorem dX9_town_4 : decode cX9_town 4 = .ok (.invokevirtual 90, 3) := by decide +kernel
theorem dX9_town_7 : decode cX9_town 7 = .ok (.aload_n 0, 1) := by decide +kernel
theorem dX9_town_8 : decode cX9_town 8 = .ok (.getfield 10, 3) := by decide +kernel
theorem dX9_town_11 : decode cX9_town 11 = .ok (.getfield 93, 3) := by decide +kernel
theorem dX9_town_14 : decode cX9_town 14 = .ok (.ifCond .eq 14, 3) := by decide +kernel
theorem dX9_town_17 : decode cX9_town 17 = .ok (.bipush (-10), 2) := by decide +kernel
theorem dX9_town_19 : decode cX9_town 19 = .ok (.aload_n 0, 1) := by decide +kernel
theorem dX9_town_20 : decode cX9_town 20 = .ok (.getfield 10, 3) := by decide +kernel
theorem dX9_town_23 : decode cX9_town 23 = .ok (.getfield 93, 3) := by decide +kernel
theorem dX9_town_26 : decode cX9_town 26 = .ok (.isub, 1) := by decide +kernel
theorem dX9_town_27 : decode cX9_town 27 = .ok (.ireturn, 1) := by decide +kernel
theorem dX9_town_28 : decode cX9_town 28 = .ok (.aload_n 0, 1) := by decide +kernel
theorem dX9_town_29 : decode cX9_town 29 = .ok (.getfield 19, 3) := by decide +kernel
theorem dX9_town_32 : decode cX9_town 32 = .ok (.aload_n 0, 1) := by decide +kernel
theorem dX9_town_33 : decode cX9_town 33 = .ok (.getfield 10, 3) := by decide +kernel
theorem dX9_town_36 : decode cX9_town 36 = .ok (.getfield 96, 3) := by decide +kernel
theorem dX9_town_39 : decode cX9_town 39 = .ok (.invokevirtual 97, 3) := by decide +kernel
theorem dX9_town_42 : decode cX9_town 42 = .ok (.aload_n 0, 1) := by decide +kernel
theorem dX9_town_43 : decode cX9_town 43 = .ok (.getfield 28, 3) := by decide +kernel
theorem dX9_town_46 : decode cX9_town 46 = .ok (.aload_n 0, 1) := by decide +kernel
theorem dX9_town_47 : decode cX9_town 47 = .ok (.getfield 10, 3) := by decide +kernel
theorem dX9_town_50 : decode cX9_town 50 = .ok (.getfield 100, 3) := by decide +kernel
theorem dX9_town_53 : decode cX9_town 53 = .ok (.invokevirtual 103, 3) := by decide +kernel
theorem dX9_town_56 : decode cX9_town 56 = .ok (.aload_n 0, 1) := by decide +kernel
theorem dX9_town_57 : decode cX9_town 57 = .ok (.getfield 38, 3) := by decide +kernel
theorem dX9_town_60 : decode cX9_town 60 = .ok (.invokevirtual 106, 3) := by decide +kernel
theorem dX9_town_63 : decode cX9_town 63 = .ok (.aload_n 0, 1) := by decide +kernel
theorem dX9_town_64 : decode cX9_town 64 = .ok (.getfield 59, 3) := by decide +kernel
theorem dX9_town_67 : decode cX9_town 67 = .ok (.iconst 0, 1) := by decide +kernel
theorem dX9_town_68 : decode cX9_town 68 = .ok (.putfield 109, 3) := by decide +kernel
theorem dX9_town_71 : decode cX9_town 71 = .ok (.aload_n 0, 1) := by decide +kernel
theorem dX9_town_72 : decode cX9_town 72 = .ok (.getfield 66, 3) := by decide +kernel
theorem dX9_town_75 : decode cX9_town 75 = .ok (.iconst 0, 1) := by decide +kernel
theorem dX9_town_76 : decode cX9_town 76 = .ok (.putfield 112, 3) := by decide +kernel
theorem dX9_town_79 : decode cX9_town 79 = .ok (.iconst 0, 1) := by decide +kernel
theorem dX9_town_80 : decode cX9_town 80 = .ok (.istore_n 1, 1) := by decide +kernel
theorem dX9_town_81 : decode cX9_town 81 = .ok (.iload_n 1, 1) := by decide +kernel
theorem dX9_town_82 : decode cX9_town 82 = .ok (.iconst 2, 1) := by decide +kernel
theorem dX9_town_83 : decode cX9_town 83 = .ok (.if_icmp .ge 19, 3) := by decide +kernel
theorem dX9_town_86 : decode cX9_town 86 = .ok (.aload_n 0, 1) := by decide +kernel
theorem dX9_town_87 : decode cX9_town 87 = .ok (.getfield 72, 3) := by decide +kernel
theorem dX9_town_90 : decode cX9_town 90 = .ok (.iload_n 1, 1) := by decide +kernel
theorem dX9_town_91 : decode cX9_town 91 = .ok (.aaload, 1) := by decide +kernel
theorem dX9_town_92 : decode cX9_town 92 = .ok (.iconst 0, 1) := by decide +kernel
theorem dX9_town_93 : decode cX9_town 93 = .ok (.putfield 113, 3) := by decide +kernel
theorem dX9_town_96 : decode cX9_town 96 = .ok (.iinc 1 1, 3) := by decide +kernel
theorem dX9_town_99 : decode cX9_town 99 = .ok (.goto (-18), 3) := by decide +kernel
theorem dX9_town_102 : decode cX9_town 102 = .ok (.aload_n 0, 1) := by decide +kernel
theorem dX9_town_103 : decode cX9_town 103 = .ok (.getfield 19, 3) := by decide +kernel
theorem dX9_town_106 : decode cX9_town 106 = .ok (.getfield 117, 3) := by decide +kernel
theorem dX9_town_109 : decode cX9_town 109 = .ok (.ireturn, 1) := by decide +kernel
theorem dX9_fault_0 : decode cX9_fault 0 = .ok (.aload_n 0, 1) := by decide +kernel
theorem dX9_fault_1 : decode cX9_fault 1 = .ok (.getfield 10, 3) := by decide +kernel
theorem dX9_fault_4 : decode cX9_fault 4 = .ok (.getfield 120, 3) := by decide +kernel
theorem dX9_fault_7 : decode cX9_fault 7 = .ok (.ireturn, 1) := by decide +kernel
theorem dX9_told_0 : decode cX9_told 0 = .ok (.iload_n 1, 1) := by decide +kernel
theorem dX9_told_1 : decode cX9_told 1 = .ok (.tableswitch 191 0 13 #[71, 87, 95, 103, 111, 119, 127, 135, 143, 151, 159, 167, 175, 183], 71) := by decide +kernel
theorem dX9_told_72 : decode cX9_told 72 = .ok (.aload_n 0, 1) := by decide +kernel
theorem dX9_told_73 : decode cX9_told 73 = .ok (.getfield 19, 3) := by decide +kernel
theorem dX9_told_76 : decode cX9_told 76 = .ok (.getfield 123, 3) := by decide +kernel
theorem dX9_told_79 : decode cX9_told 79 = .ok (.ifCond .eq 7, 3) := by decide +kernel
theorem dX9_told_82 : decode cX9_told 82 = .ok (.iconst 1, 1) := by decide +kernel
theorem dX9_told_83 : decode cX9_told 83 = .ok (.goto 4, 3) := by decide +kernel
theorem dX9_told_86 : decode cX9_told 86 = .ok (.iconst 0, 1) := by decide +kernel
theorem dX9_told_87 : decode cX9_told 87 = .ok (.ireturn, 1) := by decide +kernel
theorem dX9_told_88 : decode cX9_told 88 = .ok (.aload_n 0, 1) := by decide +kernel
theorem dX9_told_89 : decode cX9_told 89 = .ok (.getfield 19, 3) := by decide +kernel
theorem dX9_told_92 : decode cX9_told 92 = .ok (.getfield 126, 3) := by decide +kernel
theorem dX9_told_95 : decode cX9_told 95 = .ok (.ireturn, 1) := by decide +kernel
theorem dX9_told_96 : decode cX9_told 96 = .ok (.aload_n 0, 1) := by decide +kernel
theorem dX9_told_97 : decode cX9_told 97 = .ok (.getfield 19, 3) := by decide +kernel
theorem dX9_told_100 : decode cX9_told 100 = .ok (.getfield 129, 3) := by decide +kernel
theorem dX9_told_103 : decode cX9_told 103 = .ok (.ireturn, 1) := by decide +kernel
theorem dX9_told_104 : decode cX9_told 104 = .ok (.aload_n 0, 1) := by decide +kernel
theorem dX9_told_105 : decode cX9_told 105 = .ok (.getfield 19, 3) := by decide +kernel
theorem dX9_told_108 : decode cX9_told 108 = .ok (.getfield 132, 3) := by decide +kernel
theorem dX9_told_111 : decode cX9_told 111 = .ok (.ireturn, 1) := by decide +kernel
theorem dX9_told_112 : decode cX9_told 112 = .ok (.aload_n 0, 1) := by decide +kernel
theorem dX9_told_113 : decode cX9_told 113 = .ok (.getfield 19, 3) := by decide +kernel
theorem dX9_told_116 : decode cX9_told 116 = .ok (.getfield 117, 3) := by decide +kernel
theorem dX9_told_119 : decode cX9_told 119 = .ok (.ireturn, 1) := by decide +kernel
theorem dX9_told_120 : decode cX9_told 120 = .ok (.aload_n 0, 1) := by decide +kernel
theorem dX9_told_121 : decode cX9_told 121 = .ok (.getfield 10, 3) := by decide +kernel
theorem dX9_told_124 : decode cX9_told 124 = .ok (.getfield 86, 3) := by decide +kernel
theorem dX9_told_127 : decode cX9_told 127 = .ok (.ireturn, 1) := by decide +kernel
theorem dX9_told_128 : decode cX9_told 128 = .ok (.aload_n 0, 1) := by decide +kernel
theorem dX9_told_129 : decode cX9_told 129 = .ok (.getfield 28, 3) := by decide +kernel
theorem dX9_told_132 : decode cX9_told 132 = .ok (.getfield 135, 3) := by decide +kernel
theorem dX9_told_135 : decode cX9_told 135 = .ok (.ireturn, 1) := by decide +kernel
theorem dX9_told_136 : decode cX9_told 136 = .ok (.aload_n 0, 1) := by decide +kernel
theorem dX9_told_137 : decode cX9_told 137 = .ok (.getfield 19, 3) := by decide +kernel
theorem dX9_told_140 : decode cX9_told 140 = .ok (.getfield 138, 3) := by decide +kernel
theorem dX9_told_143 : decode cX9_told 143 = .ok (.ireturn, 1) := by decide +kernel
theorem dX9_told_144 : decode cX9_told 144 = .ok (.aload_n 0, 1) := by decide +kernel
theorem dX9_told_145 : decode cX9_told 145 = .ok (.getfield 28, 3) := by decide +kernel
theorem dX9_told_148 : decode cX9_told 148 = .ok (.invokevirtual 141, 3) := by decide +kernel
theorem dX9_told_151 : decode cX9_told 151 = .ok (.ireturn, 1) := by decide +kernel
theorem dX9_told_152 : decode cX9_told 152 = .ok (.aload_n 0, 1) := by decide +kernel
theorem dX9_told_153 : decode cX9_told 153 = .ok (.getfield 28, 3) := by decide +kernel
theorem dX9_told_156 : decode cX9_told 156 = .ok (.getfield 145, 3) := by decide +kernel
theorem dX9_told_159 : decode cX9_told 159 = .ok (.ireturn, 1) := by decide +kernel
theorem dX9_told_160 : decode cX9_told 160 = .ok (.aload_n 0, 1) := by decide +kernel
theorem dX9_told_161 : decode cX9_told 161 = .ok (.getfield 28, 3) := by decide +kernel
theorem dX9_told_164 : decode cX9_told 164 = .ok (.invokevirtual 148, 3) := by decide +kernel
theorem dX9_told_167 : decode cX9_told 167 = .ok (.ireturn, 1) := by decide +kernel
theorem dX9_told_168 : decode cX9_told 168 = .ok (.aload_n 0, 1) := by decide +kernel
theorem dX9_told_169 : decode cX9_told 169 = .ok (.getfield 59, 3) := by decide +kernel
theorem dX9_told_172 : decode cX9_told 172 = .ok (.getfield 109, 3) := by decide +kernel
theorem dX9_told_175 : decode cX9_told 175 = .ok (.ireturn, 1) := by decide +kernel
theorem dX9_told_176 : decode cX9_told 176 = .ok (.aload_n 0, 1) := by decide +kernel
theorem dX9_told_177 : decode cX9_told 177 = .ok (.getfield 66, 3) := by decide +kernel
theorem dX9_told_180 : decode cX9_told 180 = .ok (.getfield 112, 3) := by decide +kernel
theorem dX9_told_183 : decode cX9_told 183 = .ok (.ireturn, 1) := by decide +kernel
theorem dX9_told_184 : decode cX9_told 184 = .ok (.aload_n 0, 1) := by decide +kernel
theorem dX9_told_185 : decode cX9_told 185 = .ok (.getfield 38, 3) := by decide +kernel
theorem dX9_told_188 : decode cX9_told 188 = .ok (.getfield 151, 3) := by decide +kernel
theorem dX9_told_191 : decode cX9_told 191 = .ok (.ireturn, 1) := by decide +kernel
theorem dX9_told_192 : decode cX9_told 192 = .ok (.ldc 81, 2) := by decide +kernel
theorem dX9_told_194 : decode cX9_told 194 = .ok (.ireturn, 1) := by decide +kernel
theorem dX9_creditor_0 : decode cX9_creditor 0 = .ok (.aload_n 0, 1) := by decide +kernel
theorem dX9_creditor_1 : decode cX9_creditor 1 = .ok (.getfield 19, 3) := by decide +kernel
theorem dX9_creditor_4 : decode cX9_creditor 4 = .ok (.iload_n 1, 1) := by decide +kernel
theorem dX9_creditor_5 : decode cX9_creditor 5 = .ok (.invokevirtual 152, 3) := by decide +kernel
theorem dX9_creditor_8 : decode cX9_creditor 8 = .ok (.ifCond .ne 6, 3) := by decide +kernel
theorem dX9_creditor_11 : decode cX9_creditor 11 = .ok (.ldc 155, 2) := by decide +kernel
theorem dX9_creditor_13 : decode cX9_creditor 13 = .ok (.ireturn, 1) := by decide +kernel
theorem dX9_creditor_14 : decode cX9_creditor 14 = .ok (.iload_n 2, 1) := by decide +kernel
theorem dX9_creditor_15 : decode cX9_creditor 15 = .ok (.tableswitch 97 0 5 #[37, 47, 57, 67, 77, 87], 37) := by decide +kernel
theorem dX9_creditor_52 : decode cX9_creditor 52 = .ok (.aload_n 0, 1) := by decide +kernel
theorem dX9_creditor_53 : decode cX9_creditor 53 = .ok (.getfield 28, 3) := by decide +kernel
theorem dX9_creditor_56 : decode cX9_creditor 56 = .ok (.getfield 156, 3) := by decide +kernel
theorem dX9_creditor_59 : decode cX9_creditor 59 = .ok (.iload_n 1, 1) := by decide +kernel
theorem dX9_creditor_60 : decode cX9_creditor 60 = .ok (.iaload, 1) := by decide +kernel
theorem dX9_creditor_61 : decode cX9_creditor 61 = .ok (.ireturn, 1) := by decide +kernel
theorem dX9_creditor_62 : decode cX9_creditor 62 = .ok (.aload_n 0, 1) := by decide +kernel
theorem dX9_creditor_63 : decode cX9_creditor 63 = .ok (.getfield 19, 3) := by decide +kernel
theorem dX9_creditor_66 : decode cX9_creditor 66 = .ok (.getfield 160, 3) := by decide +kernel
theorem dX9_creditor_69 : decode cX9_creditor 69 = .ok (.iload_n 1, 1) := by decide +kernel
theorem dX9_creditor_70 : decode cX9_creditor 70 = .ok (.iaload, 1) := by decide +kernel
theorem dX9_creditor_71 : decode cX9_creditor 71 = .ok (.ireturn, 1) := by decide +kernel
theorem dX9_creditor_72 : decode cX9_creditor 72 = .ok (.aload_n 0, 1) := by decide +kernel
theorem dX9_creditor_73 : decode cX9_creditor 73 = .ok (.getfield 19, 3) := by decide +kernel
theorem dX9_creditor_76 : decode cX9_creditor 76 = .ok (.getfield 163, 3) := by decide +kernel
theorem dX9_creditor_79 : decode cX9_creditor 79 = .ok (.iload_n 1, 1) := by decide +kernel
theorem dX9_creditor_80 : decode cX9_creditor 80 = .ok (.iaload, 1) := by decide +kernel
theorem dX9_creditor_81 : decode cX9_creditor 81 = .ok (.ireturn, 1) := by decide +kernel
theorem dX9_creditor_82 : decode cX9_creditor 82 = .ok (.aload_n 0, 1) := by decide +kernel
theorem dX9_creditor_83 : decode cX9_creditor 83 = .ok (.getfield 19, 3) := by decide +kernel
theorem dX9_creditor_86 : decode cX9_creditor 86 = .ok (.getfield 166, 3) := by decide +kernel
theorem dX9_creditor_89 : decode cX9_creditor 89 = .ok (.iload_n 1, 1) := by decide +kernel
theorem dX9_creditor_90 : decode cX9_creditor 90 = .ok (.iaload, 1) := by decide +kernel
theorem dX9_creditor_91 : decode cX9_creditor 91 = .ok (.ireturn, 1) := by decide +kernel
theorem dX9_creditor_92 : decode cX9_creditor 92 = .ok (.aload_n 0, 1) := by decide +kernel
theorem dX9_creditor_93 : decode cX9_creditor 93 = .ok (.getfield 28, 3) := by decide +kernel
theorem dX9_creditor_96 : decode cX9_creditor 96 = .ok (.iload_n 1, 1) := by decide +kernel
theorem dX9_creditor_97 : decode cX9_creditor 97 = .ok (.iconst 1, 1) := by decide +kernel
theorem dX9_creditor_98 : decode cX9_creditor 98 = .ok (.invokevirtual 169, 3) := by decide +kernel
theorem dX9_creditor_101 : decode cX9_creditor 101 = .ok (.ireturn, 1) := by decide +kernel
theorem dX9_creditor_102 : decode cX9_creditor 102 = .ok (.aload_n 0, 1) := by decide +kernel
theorem dX9_creditor_103 : decode cX9_creditor 103 = .ok (.getfield 28, 3) := by decide +kernel
theorem dX9_creditor_106 : decode cX9_creditor 106 = .ok (.iload_n 1, 1) := by decide +kernel
theorem dX9_creditor_107 : decode cX9_creditor 107 = .ok (.iconst 2, 1) := by decide +kernel
theorem dX9_creditor_108 : decode cX9_creditor 108 = .ok (.invokevirtual 169, 3) := by decide +kernel
theorem dX9_creditor_111 : decode cX9_creditor 111 = .ok (.ireturn, 1) := by decide +kernel
theorem dX9_creditor_112 : decode cX9_creditor 112 = .ok (.ldc 81, 2) := by decide +kernel
theorem dX9_creditor_114 : decode cX9_creditor 114 = .ok (.ireturn, 1) := by decide +kernel
theorem dX9_person_0 : decode cX9_person 0 = .ok (.aload_n 0, 1) := by decide +kernel
theorem dX9_person_1 : decode cX9_person 1 = .ok (.getfield 19, 3) := by decide +kernel
theorem dX9_person_4 : decode cX9_person 4 = .ok (.iload_n 1, 1) := by decide +kernel
theorem dX9_person_5 : decode cX9_person 5 = .ok (.invokevirtual 173, 3) := by decide +kernel
theorem dX9_person_8 : decode cX9_person 8 = .ok (.ifCond .ne 6, 3) := by decide +kernel
theorem dX9_person_11 : decode cX9_person 11 = .ok (.ldc 155, 2) := by decide +kernel
theorem dX9_person_13 : decode cX9_person 13 = .ok (.ireturn, 1) := by decide +kernel
theorem dX9_person_14 : decode cX9_person 14 = .ok (.iload_n 2, 1) := by decide +kernel
theorem dX9_person_15 : decode cX9_person 15 = .ok (.tableswitch 88 0 4 #[33, 50, 60, 69, 78], 33) := by decide +kernel
theorem dX9_person_48 : decode cX9_person 48 = .ok (.aload_n 0, 1) := by decide +kernel
theorem dX9_person_49 : decode cX9_person 49 = .ok (.getfield 19, 3) := by decide +kernel
theorem dX9_person_52 : decode cX9_person 52 = .ok (.iload_n 1, 1) := by decide +kernel
theorem dX9_person_53 : decode cX9_person 53 = .ok (.invokevirtual 176, 3) := by decide +kernel
theorem dX9_person_56 : decode cX9_person 56 = .ok (.ifCond .eq 7, 3) := by decide +kernel
theorem dX9_person_59 : decode cX9_person 59 = .ok (.iconst 1, 1) := by decide +kernel
theorem dX9_person_60 : decode cX9_person 60 = .ok (.goto 4, 3) := by decide +kernel
theorem dX9_person_63 : decode cX9_person 63 = .ok (.iconst 0, 1) := by decide +kernel
theorem dX9_person_64 : decode cX9_person 64 = .ok (.ireturn, 1) := by decide +kernel
theorem dX9_person_65 : decode cX9_person 65 = .ok (.aload_n 0, 1) := by decide +kernel
theorem dX9_person_66 : decode cX9_person 66 = .ok (.getfield 28, 3) := by decide +kernel
theorem dX9_person_69 : decode cX9_person 69 = .ok (.getfield 179, 3) := by decide +kernel
theorem dX9_person_72 : decode cX9_person 72 = .ok (.iload_n 1, 1) := by decide +kernel
theorem dX9_person_73 : decode cX9_person 73 = .ok (.iaload, 1) := by decide +kernel
theorem dX9_person_74 : decode cX9_person 74 = .ok (.ireturn, 1) := by decide +kernel
theorem dX9_person_75 : decode cX9_person 75 = .ok (.aload_n 0, 1) := by decide +kernel
theorem dX9_person_76 : decode cX9_person 76 = .ok (.getfield 28, 3) := by decide +kernel
theorem dX9_person_79 : decode cX9_person 79 = .ok (.iload_n 1, 1) := by decide +kernel
theorem dX9_person_80 : decode cX9_person 80 = .ok (.invokevirtual 182, 3) := by decide +kernel
theorem dX9_person_83 : decode cX9_person 83 = .ok (.ireturn, 1) := by decide +kernel
theorem dX9_person_84 : decode cX9_person 84 = .ok (.aload_n 0, 1) := by decide +kernel
theorem dX9_person_85 : decode cX9_person 85 = .ok (.getfield 28, 3) := by decide +kernel
theorem dX9_person_88 : decode cX9_person 88 = .ok (.iload_n 1, 1) := by decide +kernel
theorem dX9_person_89 : decode cX9_person 89 = .ok (.invokevirtual 186, 3) := by decide +kernel
theorem dX9_person_92 : decode cX9_person 92 = .ok (.ireturn, 1) := by decide +kernel
theorem dX9_person_93 : decode cX9_person 93 = .ok (.aload_n 0, 1) := by decide +kernel
theorem dX9_person_94 : decode cX9_person 94 = .ok (.getfield 28, 3) := by decide +kernel
theorem dX9_person_97 : decode cX9_person 97 = .ok (.getfield 189, 3) := by decide +kernel
theorem dX9_person_100 : decode cX9_person 100 = .ok (.iload_n 1, 1) := by decide +kernel
theorem dX9_person_101 : decode cX9_person 101 = .ok (.iaload, 1) := by decide +kernel
theorem dX9_person_102 : decode cX9_person 102 = .ok (.ireturn, 1) := by decide +kernel
theorem dX9_person_103 : decode cX9_person 103 = .ok (.ldc 81, 2) := by decide +kernel
theorem dX9_person_105 : decode cX9_person 105 = .ok (.ireturn, 1) := by decide +kernel
theorem dX9_owes_0 : decode cX9_owes 0 = .ok (.aload_n 0, 1) := by decide +kernel
theorem dX9_owes_1 : decode cX9_owes 1 = .ok (.getfield 19, 3) := by decide +kernel
theorem dX9_owes_4 : decode cX9_owes 4 = .ok (.iload_n 1, 1) := by decide +kernel
theorem dX9_owes_5 : decode cX9_owes 5 = .ok (.iload_n 2, 1) := by decide +kernel
theorem dX9_owes_6 : decode cX9_owes 6 = .ok (.invokevirtual 192, 3) := by decide +kernel
theorem dX9_owes_9 : decode cX9_owes 9 = .ok (.ifCond .eq 15, 3) := by decide +kernel
theorem dX9_owes_12 : decode cX9_owes 12 = .ok (.aload_n 0, 1) := by decide +kernel
theorem dX9_owes_13 : decode cX9_owes 13 = .ok (.getfield 28, 3) := by decide +kernel
theorem dX9_owes_16 : decode cX9_owes 16 = .ok (.iload_n 1, 1) := by decide +kernel
theorem dX9_owes_17 : decode cX9_owes 17 = .ok (.iload_n 2, 1) := by decide +kernel
theorem dX9_owes_18 : decode cX9_owes 18 = .ok (.invokevirtual 196, 3) := by decide +kernel
theorem dX9_owes_21 : decode cX9_owes 21 = .ok (.goto 5, 3) := by decide +kernel
theorem dX9_owes_24 : decode cX9_owes 24 = .ok (.ldc 155, 2) := by decide +kernel
theorem dX9_owes_26 : decode cX9_owes 26 = .ok (.ireturn, 1) := by decide +kernel
theorem dX9_temper_0 : decode cX9_temper 0 = .ok (.aload_n 0, 1) := by decide +kernel
theorem dX9_temper_1 : decode cX9_temper 1 = .ok (.getfield 19, 3) := by decide +kernel
theorem dX9_temper_4 : decode cX9_temper 4 = .ok (.iload_n 1, 1) := by decide +kernel
theorem dX9_temper_5 : decode cX9_temper 5 = .ok (.iload_n 2, 1) := by decide +kernel
theorem dX9_temper_6 : decode cX9_temper 6 = .ok (.invokevirtual 192, 3) := by decide +kernel
theorem dX9_temper_9 : decode cX9_temper 9 = .ok (.ifCond .eq 15, 3) := by decide +kernel
theorem dX9_temper_12 : decode cX9_temper 12 = .ok (.aload_n 0, 1) := by decide +kernel
theorem dX9_temper_13 : decode cX9_temper 13 = .ok (.getfield 28, 3) := by decide +kernel
theorem dX9_temper_16 : decode cX9_temper 16 = .ok (.iload_n 1, 1) := by decide +kernel
theorem dX9_temper_17 : decode cX9_temper 17 = .ok (.iload_n 2, 1) := by decide +kernel
theorem dX9_temper_18 : decode cX9_temper 18 = .ok (.invokevirtual 199, 3) := by decide +kernel
theorem dX9_temper_21 : decode cX9_temper 21 = .ok (.goto 5, 3) := by decide +kernel
theorem dX9_temper_24 : decode cX9_temper 24 = .ok (.ldc 155, 2) := by decide +kernel
theorem dX9_temper_26 : decode cX9_temper 26 = .ok (.ireturn, 1) := by decide +kernel
theorem dX9_borrow_0 : decode cX9_borrow 0 = .ok (.aload_n 0, 1) := by decide +kernel
theorem dX9_borrow_1 : decode cX9_borrow 1 = .ok (.getfield 19, 3) := by decide +kernel
theorem dX9_borrow_4 : decode cX9_borrow 4 = .ok (.iload_n 1, 1) := by decide +kernel
theorem dX9_borrow_5 : decode cX9_borrow 5 = .ok (.iload_n 2, 1) := by decide +kernel
theorem dX9_borrow_6 : decode cX9_borrow 6 = .ok (.invokevirtual 192, 3) := by decide +kernel
theorem dX9_borrow_9 : decode cX9_borrow 9 = .ok (.ifCond .ne 6, 3) := by decide +kernel
theorem dX9_borrow_12 : decode cX9_borrow 12 = .ok (.ldc 155, 2) := by decide +kernel
theorem dX9_borrow_14 : decode cX9_borrow 14 = .ok (.ireturn, 1) := by decide +kernel
theorem dX9_borrow_15 : decode cX9_borrow 15 = .ok (.iload_n 3, 1) := by decide +kernel
theorem dX9_borrow_16 : decode cX9_borrow 16 = .ok (.iconst 1, 1) := by decide +kernel
theorem dX9_borrow_17 : decode cX9_borrow 17 = .ok (.if_icmp .lt 10, 3) := by decide +kernel
theorem dX9_borrow_20 : decode cX9_borrow 20 = .ok (.iload_n 3, 1) := by decide +kernel
theorem dX9_borrow_21 : decode cX9_borrow 21 = .ok (.sipush 999, 3) := by decide +kernel
theorem dX9_borrow_24 : decode cX9_borrow 24 = .ok (.if_icmp .le 6, 3) := by decide +kernel
theorem dX9_borrow_27 : decode cX9_borrow 27 = .ok (.ldc 81, 2) := by decide +kernel
theorem dX9_borrow_29 : decode cX9_borrow 29 = .ok (.ireturn, 1) := by decide +kernel
theorem dX9_borrow_30 : decode cX9_borrow 30 = .ok (.aload_n 0, 1) := by decide +kernel
theorem dX9_borrow_31 : decode cX9_borrow 31 = .ok (.getfield 28, 3) := by decide +kernel
theorem dX9_borrow_34 : decode cX9_borrow 34 = .ok (.iload_n 1, 1) := by decide +kernel
theorem dX9_borrow_35 : decode cX9_borrow 35 = .ok (.iload_n 2, 1) := by decide +kernel
theorem dX9_borrow_36 : decode cX9_borrow 36 = .ok (.iload_n 3, 1) := by decide +kernel
theorem dX9_borrow_37 : decode cX9_borrow 37 = .ok (.invokevirtual 202, 3) := by decide +kernel
theorem dX9_borrow_40 : decode cX9_borrow 40 = .ok (.ifCond .ne 6, 3) := by decide +kernel
theorem dX9_borrow_43 : decode cX9_borrow 43 = .ok (.ldc 206, 2) := by decide +kernel
theorem dX9_borrow_45 : decode cX9_borrow 45 = .ok (.ireturn, 1) := by decide +kernel
theorem dX9_borrow_46 : decode cX9_borrow 46 = .ok (.aload_n 0, 1) := by decide +kernel
theorem dX9_borrow_47 : decode cX9_borrow 47 = .ok (.getfield 38, 3) := by decide +kernel
theorem dX9_borrow_50 : decode cX9_borrow 50 = .ok (.aload_n 0, 1) := by decide +kernel
theorem dX9_borrow_51 : decode cX9_borrow 51 = .ok (.getfield 28, 3) := by decide +kernel
theorem dX9_borrow_54 : decode cX9_borrow 54 = .ok (.invokevirtual 207, 3) := by decide +kernel
theorem dX9_borrow_57 : decode cX9_borrow 57 = .ok (.aload_n 0, 1) := by decide +kernel
theorem dX9_borrow_58 : decode cX9_borrow 58 = .ok (.getfield 28, 3) := by decide +kernel
theorem dX9_borrow_61 : decode cX9_borrow 61 = .ok (.iload_n 1, 1) := by decide +kernel
theorem dX9_borrow_62 : decode cX9_borrow 62 = .ok (.iload_n 2, 1) := by decide +kernel
theorem dX9_borrow_63 : decode cX9_borrow 63 = .ok (.iload_n 3, 1) := by decide +kernel
theorem dX9_borrow_64 : decode cX9_borrow 64 = .ok (.invokevirtual 210, 3) := by decide +kernel
theorem dX9_borrow_67 : decode cX9_borrow 67 = .ok (.aload_n 0, 1) := by decide +kernel
theorem dX9_borrow_68 : decode cX9_borrow 68 = .ok (.getfield 28, 3) := by decide +kernel
theorem dX9_borrow_71 : decode cX9_borrow 71 = .ok (.iload_n 1, 1) := by decide +kernel
theorem dX9_borrow_72 : decode cX9_borrow 72 = .ok (.iload_n 2, 1) := by decide +kernel
theorem dX9_borrow_73 : decode cX9_borrow 73 = .ok (.invokevirtual 196, 3) := by decide +kernel
theorem dX9_borrow_76 : decode cX9_borrow 76 = .ok (.ireturn, 1) := by decide +kernel
theorem dX9_pay_0 : decode cX9_pay 0 = .ok (.aload_n 0, 1) := by decide +kernel
theorem dX9_pay_1 : decode cX9_pay 1 = .ok (.getfield 19, 3) := by decide +kernel
theorem dX9_pay_4 : decode cX9_pay 4 = .ok (.iload_n 1, 1) := by decide +kernel
theorem dX9_pay_5 : decode cX9_pay 5 = .ok (.iload_n 2, 1) := by decide +kernel
theorem dX9_pay_6 : decode cX9_pay 6 = .ok (.invokevirtual 192, 3) := by decide +kernel
theorem dX9_pay_9 : decode cX9_pay 9 = .ok (.ifCond .ne 6, 3) := by decide +kernel
theorem dX9_pay_12 : decode cX9_pay 12 = .ok (.ldc 155, 2) := by decide +kernel
theorem dX9_pay_14 : decode cX9_pay 14 = .ok (.ireturn, 1) := by decide +kernel
theorem dX9_pay_15 : decode cX9_pay 15 = .ok (.iload_n 3, 1) := by decide +kernel
theorem dX9_pay_16 : decode cX9_pay 16 = .ok (.iconst 1, 1) := by decide +kernel
theorem dX9_pay_17 : decode cX9_pay 17 = .ok (.if_icmp .lt 10, 3) := by decide +kernel
theorem dX9_pay_20 : decode cX9_pay 20 = .ok (.iload_n 3, 1) := by decide +kernel
theorem dX9_pay_21 : decode cX9_pay 21 = .ok (.sipush 9999, 3) := by decide +kernel
theorem dX9_pay_24 : decode cX9_pay 24 = .ok (.if_icmp .le 6, 3) := by decide +kernel
theorem dX9_pay_27 : decode cX9_pay 27 = .ok (.ldc 81, 2) := by decide +kernel
theorem dX9_pay_29 : decode cX9_pay 29 = .ok (.ireturn, 1) := by decide +kernel
theorem dX9_pay_30 : decode cX9_pay 30 = .ok (.iload_n 3, 1) := by decide +kernel
theorem dX9_pay_31 : decode cX9_pay 31 = .ok (.aload_n 0, 1) := by decide +kernel
theorem dX9_pay_32 : decode cX9_pay 32 = .ok (.getfield 28, 3) := by decide +kernel
theorem dX9_pay_35 : decode cX9_pay 35 = .ok (.iload_n 1, 1) := by decide +kernel
theorem dX9_pay_36 : decode cX9_pay 36 = .ok (.iload_n 2, 1) := by decide +kernel
theorem dX9_pay_37 : decode cX9_pay 37 = .ok (.invokevirtual 196, 3) := by decide +kernel
theorem dX9_pay_40 : decode cX9_pay 40 = .ok (.if_icmp .le 6, 3) := by decide +kernel
theorem dX9_pay_43 : decode cX9_pay 43 = .ok (.ldc 206, 2) := by decide +kernel
theorem dX9_pay_45 : decode cX9_pay 45 = .ok (.ireturn, 1) := by decide +kernel
theorem dX9_pay_46 : decode cX9_pay 46 = .ok (.aload_n 0, 1) := by decide +kernel
theorem dX9_pay_47 : decode cX9_pay 47 = .ok (.getfield 38, 3) := by decide +kernel
theorem dX9_pay_50 : decode cX9_pay 50 = .ok (.aload_n 0, 1) := by decide +kernel
theorem dX9_pay_51 : decode cX9_pay 51 = .ok (.getfield 28, 3) := by decide +kernel
theorem dX9_pay_54 : decode cX9_pay 54 = .ok (.invokevirtual 207, 3) := by decide +kernel
theorem dX9_pay_57 : decode cX9_pay 57 = .ok (.aload_n 0, 1) := by decide +kernel
theorem dX9_pay_58 : decode cX9_pay 58 = .ok (.getfield 28, 3) := by decide +kernel
theorem dX9_pay_61 : decode cX9_pay 61 = .ok (.iload_n 1, 1) := by decide +kernel
theorem dX9_pay_62 : decode cX9_pay 62 = .ok (.iload_n 2, 1) := by decide +kernel
theorem dX9_pay_63 : decode cX9_pay 63 = .ok (.iload_n 3, 1) := by decide +kernel
theorem dX9_pay_64 : decode cX9_pay 64 = .ok (.invokevirtual 214, 3) := by decide +kernel
theorem dX9_pay_67 : decode cX9_pay 67 = .ok (.aload_n 0, 1) := by decide +kernel
theorem dX9_pay_68 : decode cX9_pay 68 = .ok (.getfield 28, 3) := by decide +kernel
theorem dX9_pay_71 : decode cX9_pay 71 = .ok (.iload_n 1, 1) := by decide +kernel
theorem dX9_pay_72 : decode cX9_pay 72 = .ok (.iload_n 2, 1) := by decide +kernel
theorem dX9_pay_73 : decode cX9_pay 73 = .ok (.invokevirtual 196, 3) := by decide +kernel
theorem dX9_pay_76 : decode cX9_pay 76 = .ok (.ireturn, 1) := by decide +kernel
theorem dX9_quarter_0 : decode cX9_quarter 0 = .ok (.aload_n 0, 1) := by decide +kernel
theorem dX9_quarter_1 : decode cX9_quarter 1 = .ok (.iload_n 1, 1) := by decide +kernel
theorem dX9_quarter_2 : decode cX9_quarter 2 = .ok (.invokevirtual 217, 3) := by decide +kernel
theorem dX9_quarter_5 : decode cX9_quarter 5 = .ok (.istore_n 2, 1) := by decide +kernel
theorem dX9_quarter_6 : decode cX9_quarter 6 = .ok (.iload_n 2, 1) := by decide +kernel
theorem dX9_quarter_7 : decode cX9_quarter 7 = .ok (.ifCond .eq 5, 3) := by decide +kernel
theorem dX9_quarter_10 : decode cX9_quarter 10 = .ok (.iload_n 2, 1) := by decide +kernel
theorem dX9_quarter_11 : decode cX9_quarter 11 = .ok (.ireturn, 1) := by decide +kernel
theorem dX9_quarter_12 : decode cX9_quarter 12 = .ok (.iconst 0, 1) := by decide +kernel
theorem dX9_quarter_13 : decode cX9_quarter 13 = .ok (.istore_n 3, 1) := by decide +kernel
theorem dX9_quarter_14 : decode cX9_quarter 14 = .ok (.iconst 0, 1) := by decide +kernel
theorem dX9_quarter_15 : decode cX9_quarter 15 = .ok (.istore 4, 2) := by decide +kernel
theorem dX9_quarter_17 : decode cX9_quarter 17 = .ok (.iload 4, 2) := by decide +kernel
theorem dX9_quarter_19 : decode cX9_quarter 19 = .ok (.iload_n 1, 1) := by decide +kernel
theorem dX9_quarter_20 : decode cX9_quarter 20 = .ok (.if_icmp .ge 30, 3) := by decide +kernel
theorem dX9_quarter_23 : decode cX9_quarter 23 = .ok (.aload_n 0, 1) := by decide +kernel
theorem dX9_quarter_24 : decode cX9_quarter 24 = .ok (.getfield 38, 3) := by decide +kernel
theorem dX9_quarter_27 : decode cX9_quarter 27 = .ok (.aload_n 0, 1) := by decide +kernel
theorem dX9_quarter_28 : decode cX9_quarter 28 = .ok (.getfield 28, 3) := by decide +kernel
theorem dX9_quarter_31 : decode cX9_quarter 31 = .ok (.invokevirtual 207, 3) := by decide +kernel
theorem dX9_quarter_34 : decode cX9_quarter 34 = .ok (.iload_n 3, 1) := by decide +kernel
theorem dX9_quarter_35 : decode cX9_quarter 35 = .ok (.aload_n 0, 1) := by decide +kernel
theorem dX9_quarter_36 : decode cX9_quarter 36 = .ok (.getfield 28, 3) := by decide +kernel
theorem dX9_quarter_39 : decode cX9_quarter 39 = .ok (.invokevirtual 220, 3) := by decide +kernel
theorem dX9_quarter_42 : decode cX9_quarter 42 = .ok (.ior, 1) := by decide +kernel
theorem dX9_quarter_43 : decode cX9_quarter 43 = .ok (.istore_n 3, 1) := by decide +kernel
theorem dX9_quarter_44 : decode cX9_quarter 44 = .ok (.iinc 4 1, 3) := by decide +kernel
theorem dX9_quarter_47 : decode cX9_quarter 47 = .ok (.goto (-30), 3) := by decide +kernel
theorem dX9_quarter_50 : decode cX9_quarter 50 = .ok (.iload_n 3, 1) := by decide +kernel
theorem dX9_quarter_51 : decode cX9_quarter 51 = .ok (.invokestatic 223, 3) := by decide +kernel
theorem dX9_quarter_54 : decode cX9_quarter 54 = .ok (.ireturn, 1) := by decide +kernel
theorem dX9_wed_0 : decode cX9_wed 0 = .ok (.aload_n 0, 1) := by decide +kernel
theorem dX9_wed_1 : decode cX9_wed 1 = .ok (.iload_n 1, 1) := by decide +kernel
theorem dX9_wed_2 : decode cX9_wed 2 = .ok (.iload_n 2, 1) := by decide +kernel
theorem dX9_wed_3 : decode cX9_wed 3 = .ok (.invokevirtual 228, 3) := by decide +kernel
theorem dX9_wed_6 : decode cX9_wed 6 = .ok (.istore_n 3, 1) := by decide +kernel
theorem dX9_wed_7 : decode cX9_wed 7 = .ok (.iload_n 3, 1) := by decide +kernel
theorem dX9_wed_8 : decode cX9_wed 8 = .ok (.ifCond .eq 5, 3) := by decide +kernel
theorem dX9_wed_11 : decode cX9_wed 11 = .ok (.iload_n 3, 1) := by decide +kernel
theorem dX9_wed_12 : decode cX9_wed 12 = .ok (.ireturn, 1) := by decide +kernel
theorem dX9_wed_13 : decode cX9_wed 13 = .ok (.aload_n 0, 1) := by decide +kernel
theorem dX9_wed_14 : decode cX9_wed 14 = .ok (.getfield 38, 3) := by decide +kernel
theorem dX9_wed_17 : decode cX9_wed 17 = .ok (.aload_n 0, 1) := by decide +kernel
theorem dX9_wed_18 : decode cX9_wed 18 = .ok (.getfield 28, 3) := by decide +kernel
theorem dX9_wed_21 : decode cX9_wed 21 = .ok (.invokevirtual 207, 3) := by decide +kernel
theorem dX9_wed_24 : decode cX9_wed 24 = .ok (.aload_n 0, 1) := by decide +kernel
theorem dX9_wed_25 : decode cX9_wed 25 = .ok (.getfield 28, 3) := by decide +kernel
theorem dX9_wed_28 : decode cX9_wed 28 = .ok (.iload_n 1, 1) := by decide +kernel
theorem dX9_wed_29 : decode cX9_wed 29 = .ok (.iload_n 2, 1) := by decide +kernel
theorem dX9_wed_30 : decode cX9_wed 30 = .ok (.invokevirtual 231, 3) := by decide +kernel
theorem dX9_wed_33 : decode cX9_wed 33 = .ok (.aload_n 0, 1) := by decide +kernel
theorem dX9_wed_34 : decode cX9_wed 34 = .ok (.getfield 28, 3) := by decide +kernel
theorem dX9_wed_37 : decode cX9_wed 37 = .ok (.iload_n 1, 1) := by decide +kernel
theorem dX9_wed_38 : decode cX9_wed 38 = .ok (.invokevirtual 186, 3) := by decide +kernel
theorem dX9_wed_41 : decode cX9_wed 41 = .ok (.bipush 10, 2) := by decide +kernel
theorem dX9_wed_43 : decode cX9_wed 43 = .ok (.iadd, 1) := by decide +kernel
theorem dX9_wed_44 : decode cX9_wed 44 = .ok (.ireturn, 1) := by decide +kernel
theorem dX9_divorce_0 : decode cX9_divorce 0 = .ok (.aload_n 0, 1) := by decide +kernel
theorem dX9_divorce_1 : decode cX9_divorce 1 = .ok (.getfield 19, 3) := by decide +kernel
theorem dX9_divorce_4 : decode cX9_divorce 4 = .ok (.iload_n 1, 1) := by decide +kernel
theorem dX9_divorce_5 : decode cX9_divorce 5 = .ok (.invokevirtual 176, 3) := by decide +kernel
theorem dX9_divorce_8 : decode cX9_divorce 8 = .ok (.ifCond .ne 6, 3) := by decide +kernel
theorem dX9_divorce_11 : decode cX9_divorce 11 = .ok (.ldc 155, 2) := by decide +kernel
theorem dX9_divorce_13 : decode cX9_divorce 13 = .ok (.ireturn, 1) := by decide +kernel
theorem dX9_divorce_14 : decode cX9_divorce 14 = .ok (.aload_n 0, 1) := by decide +kernel
theorem dX9_divorce_15 : decode cX9_divorce 15 = .ok (.getfield 28, 3) := by decide +kernel
theorem dX9_divorce_18 : decode cX9_divorce 18 = .ok (.getfield 179, 3) := by decide +kernel
theorem dX9_divorce_21 : decode cX9_divorce 21 = .ok (.iload_n 1, 1) := by decide +kernel
theorem dX9_divorce_22 : decode cX9_divorce 22 = .ok (.iaload, 1) := by decide +kernel
theorem dX9_divorce_23 : decode cX9_divorce 23 = .ok (.istore_n 2, 1) := by decide +kernel
theorem dX9_divorce_24 : decode cX9_divorce 24 = .ok (.aload_n 0, 1) := by decide +kernel
theorem dX9_divorce_25 : decode cX9_divorce 25 = .ok (.getfield 19, 3) := by decide +kernel
theorem dX9_divorce_28 : decode cX9_divorce 28 = .ok (.iload_n 2, 1) := by decide +kernel
theorem dX9_divorce_29 : decode cX9_divorce 29 = .ok (.invokevirtual 173, 3) := by decide +kernel
theorem dX9_divorce_32 : decode cX9_divorce 32 = .ok (.ifCond .ne 6, 3) := by decide +kernel
theorem dX9_divorce_35 : decode cX9_divorce 35 = .ok (.ldc 206, 2) := by decide +kernel
theorem dX9_divorce_37 : decode cX9_divorce 37 = .ok (.ireturn, 1) := by decide +kernel
theorem dX9_divorce_38 : decode cX9_divorce 38 = .ok (.aload_n 0, 1) := by decide +kernel
theorem dX9_divorce_39 : decode cX9_divorce 39 = .ok (.getfield 38, 3) := by decide +kernel
theorem dX9_divorce_42 : decode cX9_divorce 42 = .ok (.aload_n 0, 1) := by decide +kernel
theorem dX9_divorce_43 : decode cX9_divorce 43 = .ok (.getfield 28, 3) := by decide +kernel
theorem dX9_divorce_46 : decode cX9_divorce 46 = .ok (.invokevirtual 207, 3) := by decide +kernel
theorem dX9_divorce_49 : decode cX9_divorce 49 = .ok (.aload_n 0, 1) := by decide +kernel
theorem dX9_divorce_50 : decode cX9_divorce 50 = .ok (.getfield 28, 3) := by decide +kernel
theorem dX9_divorce_53 : decode cX9_divorce 53 = .ok (.iload_n 1, 1) := by decide +kernel
theorem dX9_divorce_54 : decode cX9_divorce 54 = .ok (.iload_n 2, 1) := by decide +kernel
theorem dX9_divorce_55 : decode cX9_divorce 55 = .ok (.invokevirtual 235, 3) := by decide +kernel
theorem dX9_divorce_58 : decode cX9_divorce 58 = .ok (.aload_n 0, 1) := by decide +kernel
theorem dX9_divorce_59 : decode cX9_divorce 59 = .ok (.getfield 28, 3) := by decide +kernel
theorem dX9_divorce_62 : decode cX9_divorce 62 = .ok (.iload_n 2, 1) := by decide +kernel
theorem dX9_divorce_63 : decode cX9_divorce 63 = .ok (.invokevirtual 182, 3) := by decide +kernel
theorem dX9_divorce_66 : decode cX9_divorce 66 = .ok (.ireturn, 1) := by decide +kernel
theorem dX9_drift_0 : decode cX9_drift 0 = .ok (.aload_n 0, 1) := by decide +kernel
theorem dX9_drift_1 : decode cX9_drift 1 = .ok (.iload_n 1, 1) := by decide +kernel
theorem dX9_drift_2 : decode cX9_drift 2 = .ok (.invokevirtual 217, 3) := by decide +kernel
theorem dX9_drift_5 : decode cX9_drift 5 = .ok (.istore_n 2, 1) := by decide +kernel
theorem dX9_drift_6 : decode cX9_drift 6 = .ok (.iload_n 2, 1) := by decide +kernel
theorem dX9_drift_7 : decode cX9_drift 7 = .ok (.ifCond .eq 5, 3) := by decide +kernel
theorem dX9_drift_10 : decode cX9_drift 10 = .ok (.iload_n 2, 1) := by decide +kernel
theorem dX9_drift_11 : decode cX9_drift 11 = .ok (.ireturn, 1) := by decide +kernel
theorem dX9_drift_12 : decode cX9_drift 12 = .ok (.iconst 0, 1) := by decide +kernel
theorem dX9_drift_13 : decode cX9_drift 13 = .ok (.istore_n 3, 1) := by decide +kernel
theorem dX9_drift_14 : decode cX9_drift 14 = .ok (.iload_n 3, 1) := by decide +kernel
theorem dX9_drift_15 : decode cX9_drift 15 = .ok (.iload_n 1, 1) := by decide +kernel
theorem dX9_drift_16 : decode cX9_drift 16 = .ok (.if_icmp .ge 32, 3) := by decide +kernel
theorem dX9_drift_19 : decode cX9_drift 19 = .ok (.aload_n 0, 1) := by decide +kernel
theorem dX9_drift_20 : decode cX9_drift 20 = .ok (.getfield 38, 3) := by decide +kernel
theorem dX9_drift_23 : decode cX9_drift 23 = .ok (.aload_n 0, 1) := by decide +kernel
theorem dX9_drift_24 : decode cX9_drift 24 = .ok (.getfield 28, 3) := by decide +kernel
theorem dX9_drift_27 : decode cX9_drift 27 = .ok (.invokevirtual 207, 3) := by decide +kernel
theorem dX9_drift_30 : decode cX9_drift 30 = .ok (.aload_n 0, 1) := by decide +kernel
theorem dX9_drift_31 : decode cX9_drift 31 = .ok (.invokevirtual 238, 3) := by decide +kernel
theorem dX9_drift_34 : decode cX9_drift 34 = .ok (.aload_n 0, 1) := by decide +kernel
theorem dX9_drift_35 : decode cX9_drift 35 = .ok (.getfield 28, 3) := by decide +kernel
theorem dX9_drift_38 : decode cX9_drift 38 = .ok (.invokevirtual 220, 3) := by decide +kernel
theorem dX9_drift_41 : decode cX9_drift 41 = .ok (.pop, 1) := by decide +kernel
theorem dX9_drift_42 : decode cX9_drift 42 = .ok (.iinc 3 1, 3) := by decide +kernel
theorem dX9_drift_45 : decode cX9_drift 45 = .ok (.goto (-31), 3) := by decide +kernel
theorem dX9_drift_48 : decode cX9_drift 48 = .ok (.aload_n 0, 1) := by decide +kernel
theorem dX9_drift_49 : decode cX9_drift 49 = .ok (.getfield 28, 3) := by decide +kernel
theorem dX9_drift_52 : decode cX9_drift 52 = .ok (.invokevirtual 148, 3) := by decide +kernel
theorem dX9_drift_55 : decode cX9_drift 55 = .ok (.ireturn, 1) := by decide +kernel
theorem dX9_undo_0 : decode cX9_undo 0 = .ok (.iload_n 1, 1) := by decide +kernel
theorem dX9_undo_1 : decode cX9_undo 1 = .ok (.iconst 1, 1) := by decide +kernel
theorem dX9_undo_2 : decode cX9_undo 2 = .ok (.if_icmp .lt 9, 3) := by decide +kernel
theorem dX9_undo_5 : decode cX9_undo 5 = .ok (.iload_n 1, 1) := by decide +kernel
theorem dX9_undo_6 : decode cX9_undo 6 = .ok (.bipush 30, 2) := by decide +kernel
theorem dX9_undo_8 : decode cX9_undo 8 = .ok (.if_icmp .le 6, 3) := by decide +kernel
theorem dX9_undo_11 : decode cX9_undo 11 = .ok (.ldc 81, 2) := by decide +kernel
theorem dX9_undo_13 : decode cX9_undo 13 = .ok (.ireturn, 1) := by decide +kernel
theorem dX9_undo_14 : decode cX9_undo 14 = .ok (.iload_n 1, 1) := by decide +kernel
theorem dX9_undo_15 : decode cX9_undo 15 = .ok (.aload_n 0, 1) := by decide +kernel
theorem dX9_undo_16 : decode cX9_undo 16 = .ok (.getfield 38, 3) := by decide +kernel
theorem dX9_undo_19 : decode cX9_undo 19 = .ok (.getfield 151, 3) := by decide +kernel
theorem dX9_undo_22 : decode cX9_undo 22 = .ok (.if_icmp .le 6, 3) := by decide +kernel
theorem dX9_undo_25 : decode cX9_undo 25 = .ok (.ldc 206, 2) := by decide +kernel
theorem dX9_undo_27 : decode cX9_undo 27 = .ok (.ireturn, 1) := by decide +kernel
theorem dX9_undo_28 : decode cX9_undo 28 = .ok (.aload_n 0, 1) := by decide +kernel
theorem dX9_undo_29 : decode cX9_undo 29 = .ok (.getfield 38, 3) := by decide +kernel
theorem dX9_undo_32 : decode cX9_undo 32 = .ok (.aload_n 0, 1) := by decide +kernel
theorem dX9_undo_33 : decode cX9_undo 33 = .ok (.getfield 28, 3) := by decide +kernel
theorem dX9_undo_36 : decode cX9_undo 36 = .ok (.iload_n 1, 1) := by decide +kernel
theorem dX9_undo_37 : decode cX9_undo 37 = .ok (.invokevirtual 241, 3) := by decide +kernel
theorem dX9_undo_40 : decode cX9_undo 40 = .ok (.aload_n 0, 1) := by decide +kernel
theorem dX9_undo_41 : decode cX9_undo 41 = .ok (.getfield 28, 3) := by decide +kernel
theorem dX9_undo_44 : decode cX9_undo 44 = .ok (.getfield 135, 3) := by decide +kernel
theorem dX9_undo_47 : decode cX9_undo 47 = .ok (.ireturn, 1) := by decide +kernel
theorem dX9_joined_0 : decode cX9_joined 0 = .ok (.aload_n 0, 1) := by decide +kernel
theorem dX9_joined_1 : decode cX9_joined 1 = .ok (.iload_n 1, 1) := by decide +kernel
theorem dX9_joined_2 : decode cX9_joined 2 = .ok (.iload_n 2, 1) := by decide +kernel
theorem dX9_joined_3 : decode cX9_joined 3 = .ok (.invokevirtual 228, 3) := by decide +kernel
theorem dX9_joined_6 : decode cX9_joined 6 = .ok (.istore_n 3, 1) := by decide +kernel
theorem dX9_joined_7 : decode cX9_joined 7 = .ok (.iload_n 3, 1) := by decide +kernel
theorem dX9_joined_8 : decode cX9_joined 8 = .ok (.ifCond .eq 5, 3) := by decide +kernel
theorem dX9_joined_11 : decode cX9_joined 11 = .ok (.iload_n 3, 1) := by decide +kernel
theorem dX9_joined_12 : decode cX9_joined 12 = .ok (.ireturn, 1) := by decide +kernel
theorem dX9_joined_13 : decode cX9_joined 13 = .ok (.aload_n 0, 1) := by decide +kernel
theorem dX9_joined_14 : decode cX9_joined 14 = .ok (.getfield 28, 3) := by decide +kernel
theorem dX9_joined_17 : decode cX9_joined 17 = .ok (.iload_n 1, 1) := by decide +kernel
theorem dX9_joined_18 : decode cX9_joined 18 = .ok (.iload_n 2, 1) := by decide +kernel
theorem dX9_joined_19 : decode cX9_joined 19 = .ok (.invokevirtual 245, 3) := by decide +kernel
theorem dX9_joined_22 : decode cX9_joined 22 = .ok (.bipush 10, 2) := by decide +kernel
theorem dX9_joined_24 : decode cX9_joined 24 = .ok (.iadd, 1) := by decide +kernel
theorem dX9_joined_25 : decode cX9_joined 25 = .ok (.ireturn, 1) := by decide +kernel
theorem dX9_least_0 : decode cX9_least 0 = .ok (.aload_n 0, 1) := by decide +kernel
theorem dX9_least_1 : decode cX9_least 1 = .ok (.getfield 19, 3) := by decide +kernel
theorem dX9_least_4 : decode cX9_least 4 = .ok (.iload_n 1, 1) := by decide +kernel
theorem dX9_least_5 : decode cX9_least 5 = .ok (.invokevirtual 173, 3) := by decide +kernel
theorem dX9_least_8 : decode cX9_least 8 = .ok (.ifCond .ne 6, 3) := by decide +kernel
theorem dX9_least_11 : decode cX9_least 11 = .ok (.ldc 155, 2) := by decide +kernel
theorem dX9_least_13 : decode cX9_least 13 = .ok (.ireturn, 1) := by decide +kernel
theorem dX9_least_14 : decode cX9_least 14 = .ok (.iload_n 2, 1) := by decide +kernel
theorem dX9_least_15 : decode cX9_least 15 = .ok (.iconst 1, 1) := by decide +kernel
theorem dX9_least_16 : decode cX9_least 16 = .ok (.if_icmp .lt 18, 3) := by decide +kernel
theorem dX9_least_19 : decode cX9_least 19 = .ok (.iload_n 2, 1) := by decide +kernel
theorem dX9_least_20 : decode cX9_least 20 = .ok (.bipush 36, 2) := by decide +kernel
theorem dX9_least_22 : decode cX9_least 22 = .ok (.if_icmp .gt 12, 3) := by decide +kernel
theorem dX9_least_25 : decode cX9_least 25 = .ok (.iload_n 3, 1) := by decide +kernel
theorem dX9_least_26 : decode cX9_least 26 = .ok (.ifCond .lt 8, 3) := by decide +kernel
theorem dX9_least_29 : decode cX9_least 29 = .ok (.iload_n 3, 1) := by decide +kernel
theorem dX9_least_30 : decode cX9_least 30 = .ok (.iconst 1, 1) := by decide +kernel
theorem dX9_least_31 : decode cX9_least 31 = .ok (.if_icmp .le 6, 3) := by decide +kernel
theorem dX9_least_34 : decode cX9_least 34 = .ok (.ldc 81, 2) := by decide +kernel
theorem dX9_least_36 : decode cX9_least 36 = .ok (.ireturn, 1) := by decide +kernel
theorem dX9_least_37 : decode cX9_least 37 = .ok (.aload_n 0, 1) := by decide +kernel
theorem dX9_least_38 : decode cX9_least 38 = .ok (.getfield 28, 3) := by decide +kernel
theorem dX9_least_41 : decode cX9_least 41 = .ok (.iload_n 1, 1) := by decide +kernel
theorem dX9_least_42 : decode cX9_least 42 = .ok (.invokevirtual 248, 3) := by decide +kernel
theorem dX9_least_45 : decode cX9_least 45 = .ok (.ifCond .eq 6, 3) := by decide +kernel
theorem dX9_least_48 : decode cX9_least 48 = .ok (.ldc 206, 2) := by decide +kernel
theorem dX9_least_50 : decode cX9_least 50 = .ok (.ireturn, 1) := by decide +kernel
theorem dX9_least_51 : decode cX9_least 51 = .ok (.aload_n 0, 1) := by decide +kernel
theorem dX9_least_52 : decode cX9_least 52 = .ok (.getfield 28, 3) := by decide +kernel
theorem dX9_least_55 : decode cX9_least 55 = .ok (.iload_n 1, 1) := by decide +kernel
theorem dX9_least_56 : decode cX9_least 56 = .ok (.iload_n 2, 1) := by decide +kernel
theorem dX9_least_57 : decode cX9_least 57 = .ok (.invokevirtual 251, 3) := by decide +kernel
theorem dX9_least_60 : decode cX9_least 60 = .ok (.istore 4, 2) := by decide +kernel
theorem dX9_least_62 : decode cX9_least 62 = .ok (.iload 4, 2) := by decide +kernel
theorem dX9_least_64 : decode cX9_least 64 = .ok (.iconst (-1), 1) := by decide +kernel
theorem dX9_least_65 : decode cX9_least 65 = .ok (.if_icmp .eq 7, 3) := by decide +kernel
theorem dX9_least_68 : decode cX9_least 68 = .ok (.iload_n 3, 1) := by decide +kernel
theorem dX9_least_69 : decode cX9_least 69 = .ok (.ifCond .ne 8, 3) := by decide +kernel
theorem dX9_least_72 : decode cX9_least 72 = .ok (.iload 4, 2) := by decide +kernel
theorem dX9_least_74 : decode cX9_least 74 = .ok (.goto 13, 3) := by decide +kernel
theorem dX9_least_77 : decode cX9_least 77 = .ok (.aload_n 0, 1) := by decide +kernel
theorem dX9_least_78 : decode cX9_least 78 = .ok (.getfield 28, 3) := by decide +kernel
theorem dX9_least_81 : decode cX9_least 81 = .ok (.iload_n 1, 1) := by decide +kernel
theorem dX9_least_82 : decode cX9_least 82 = .ok (.iload 4, 2) := by decide +kernel
theorem dX9_least_84 : decode cX9_least 84 = .ok (.invokevirtual 254, 3) := by decide +kernel
theorem dX9_least_87 : decode cX9_least 87 = .ok (.ireturn, 1) := by decide +kernel
theorem dX9_plan_0 : decode cX9_plan 0 = .ok (.aload_n 0, 1) := by decide +kernel
theorem dX9_plan_1 : decode cX9_plan 1 = .ok (.getfield 19, 3) := by decide +kernel
theorem dX9_plan_4 : decode cX9_plan 4 = .ok (.iload_n 1, 1) := by decide +kernel
theorem dX9_plan_5 : decode cX9_plan 5 = .ok (.iload_n 2, 1) := by decide +kernel
theorem dX9_plan_6 : decode cX9_plan 6 = .ok (.invokevirtual 192, 3) := by decide +kernel
theorem dX9_plan_9 : decode cX9_plan 9 = .ok (.ifCond .ne 6, 3) := by decide +kernel
theorem dX9_plan_12 : decode cX9_plan 12 = .ok (.ldc 155, 2) := by decide +kernel
theorem dX9_plan_14 : decode cX9_plan 14 = .ok (.ireturn, 1) := by decide +kernel
theorem dX9_plan_15 : decode cX9_plan 15 = .ok (.iload_n 3, 1) := by decide +kernel
theorem dX9_plan_16 : decode cX9_plan 16 = .ok (.iconst 1, 1) := by decide +kernel
theorem dX9_plan_17 : decode cX9_plan 17 = .ok (.if_icmp .lt 20, 3) := by decide +kernel
theorem dX9_plan_20 : decode cX9_plan 20 = .ok (.iload_n 3, 1) := by decide +kernel
theorem dX9_plan_21 : decode cX9_plan 21 = .ok (.bipush 8, 2) := by decide +kernel
theorem dX9_plan_23 : decode cX9_plan 23 = .ok (.if_icmp .gt 14, 3) := by decide +kernel
theorem dX9_plan_26 : decode cX9_plan 26 = .ok (.iload 4, 2) := by decide +kernel
theorem dX9_plan_28 : decode cX9_plan 28 = .ok (.ifCond .lt 9, 3) := by decide +kernel
theorem dX9_plan_31 : decode cX9_plan 31 = .ok (.iload 4, 2) := by decide +kernel
theorem dX9_plan_33 : decode cX9_plan 33 = .ok (.iconst 1, 1) := by decide +kernel
theorem dX9_plan_34 : decode cX9_plan 34 = .ok (.if_icmp .le 6, 3) := by decide +kernel
theorem dX9_plan_37 : decode cX9_plan 37 = .ok (.ldc 81, 2) := by decide +kernel
theorem dX9_plan_39 : decode cX9_plan 39 = .ok (.ireturn, 1) := by decide +kernel
theorem dX9_plan_40 : decode cX9_plan 40 = .ok (.aload_n 0, 1) := by decide +kernel
theorem dX9_plan_41 : decode cX9_plan 41 = .ok (.getfield 28, 3) := by decide +kernel
theorem dX9_plan_44 : decode cX9_plan 44 = .ok (.iload_n 2, 1) := by decide +kernel
theorem dX9_plan_45 : decode cX9_plan 45 = .ok (.invokevirtual 257, 3) := by decide +kernel
theorem dX9_plan_48 : decode cX9_plan 48 = .ok (.ifCond .ne 28, 3) := by decide +kernel
theorem dX9_plan_51 : decode cX9_plan 51 = .ok (.aload_n 0, 1) := by decide +kernel
theorem dX9_plan_52 : decode cX9_plan 52 = .ok (.getfield 52, 3) := by decide +kernel
theorem dX9_plan_55 : decode cX9_plan 55 = .ok (.aload_n 0, 1) := by decide +kernel
theorem dX9_plan_56 : decode cX9_plan 56 = .ok (.getfield 19, 3) := by decide +kernel
theorem dX9_plan_59 : decode cX9_plan 59 = .ok (.iload_n 2, 1) := by decide +kernel
theorem dX9_plan_60 : decode cX9_plan 60 = .ok (.aload_n 0, 1) := by decide +kernel
theorem dX9_plan_61 : decode cX9_plan 61 = .ok (.getfield 28, 3) := by decide +kernel
theorem dX9_plan_64 : decode cX9_plan 64 = .ok (.iload_n 1, 1) := by decide +kernel
theorem dX9_plan_65 : decode cX9_plan 65 = .ok (.iload_n 2, 1) := by decide +kernel
theorem dX9_plan_66 : decode cX9_plan 66 = .ok (.invokevirtual 196, 3) := by decide +kernel
theorem dX9_plan_69 : decode cX9_plan 69 = .ok (.iload_n 3, 1) := by decide +kernel
theorem dX9_plan_70 : decode cX9_plan 70 = .ok (.invokevirtual 260, 3) := by decide +kernel
theorem dX9_plan_73 : decode cX9_plan 73 = .ok (.ifCond .ne 5, 3) := by decide +kernel
theorem dX9_plan_76 : decode cX9_plan 76 = .ok (.iconst (-1), 1) := by decide +kernel
theorem dX9_plan_77 : decode cX9_plan 77 = .ok (.ireturn, 1) := by decide +kernel
theorem dX9_plan_78 : decode cX9_plan 78 = .ok (.iload 4, 2) := by decide +kernel
theorem dX9_plan_80 : decode cX9_plan 80 = .ok (.ifCond .ne 13, 3) := by decide +kernel
theorem dX9_plan_83 : decode cX9_plan 83 = .ok (.aload_n 0, 1) := by decide +kernel
theorem dX9_plan_84 : decode cX9_plan 84 = .ok (.getfield 52, 3) := by decide +kernel
theorem dX9_plan_87 : decode cX9_plan 87 = .ok (.getfield 264, 3) := by decide +kernel
theorem dX9_plan_90 : decode cX9_plan 90 = .ok (.goto 10, 3) := by decide +kernel
theorem dX9_plan_93 : decode cX9_plan 93 = .ok (.aload_n 0, 1) := by decide +kernel
theorem dX9_plan_94 : decode cX9_plan 94 = .ok (.getfield 52, 3) := by decide +kernel
theorem dX9_plan_97 : decode cX9_plan 97 = .ok (.getfield 267, 3) := by decide +kernel
theorem dX9_plan_100 : decode cX9_plan 100 = .ok (.ireturn, 1) := by decide +kernel
theorem dX9_matches_0 : decode cX9_matches 0 = .ok (.iload_n 1, 1) := by decide +kernel
theorem dX9_matches_1 : decode cX9_matches 1 = .ok (.iconst (-1), 1) := by decide +kernel
theorem dX9_matches_2 : decode cX9_matches 2 = .ok (.if_icmp .eq 17, 3) := by decide +kernel
theorem dX9_matches_5 : decode cX9_matches 5 = .ok (.aload_n 0, 1) := by decide +kernel
theorem dX9_matches_6 : decode cX9_matches 6 = .ok (.getfield 19, 3) := by decide +kernel
theorem dX9_matches_9 : decode cX9_matches 9 = .ok (.iload_n 1, 1) := by decide +kernel
theorem dX9_matches_10 : decode cX9_matches 10 = .ok (.invokevirtual 176, 3) := by decide +kernel
theorem dX9_matches_13 : decode cX9_matches 13 = .ok (.ifCond .ne 6, 3) := by decide +kernel
theorem dX9_matches_16 : decode cX9_matches 16 = .ok (.ldc 155, 2) := by decide +kernel
theorem dX9_matches_18 : decode cX9_matches 18 = .ok (.ireturn, 1) := by decide +kernel
theorem dX9_matches_19 : decode cX9_matches 19 = .ok (.aload_n 0, 1) := by decide +kernel
theorem dX9_matches_20 : decode cX9_matches 20 = .ok (.getfield 45, 3) := by decide +kernel
theorem dX9_matches_23 : decode cX9_matches 23 = .ok (.aload_n 0, 1) := by decide +kernel
theorem dX9_matches_24 : decode cX9_matches 24 = .ok (.getfield 28, 3) := by decide +kernel
theorem dX9_matches_27 : decode cX9_matches 27 = .ok (.invokevirtual 270, 3) := by decide +kernel
theorem dX9_matches_30 : decode cX9_matches 30 = .ok (.istore_n 2, 1) := by decide +kernel
theorem dX9_matches_31 : decode cX9_matches 31 = .ok (.iload_n 1, 1) := by decide +kernel
theorem dX9_matches_32 : decode cX9_matches 32 = .ok (.iconst (-1), 1) := by decide +kernel
theorem dX9_matches_33 : decode cX9_matches 33 = .ok (.if_icmp .ne 7, 3) := by decide +kernel
theorem dX9_matches_36 : decode cX9_matches 36 = .ok (.iload_n 2, 1) := by decide +kernel
theorem dX9_matches_37 : decode cX9_matches 37 = .ok (.goto 12, 3) := by decide +kernel
theorem dX9_matches_40 : decode cX9_matches 40 = .ok (.aload_n 0, 1) := by decide +kernel
theorem dX9_matches_41 : decode cX9_matches 41 = .ok (.getfield 45, 3) := by decide +kernel
theorem dX9_matches_44 : decode cX9_matches 44 = .ok (.getfield 274, 3) := by decide +kernel
theorem dX9_matches_47 : decode cX9_matches 47 = .ok (.iload_n 1, 1) := by decide +kernel
theorem dX9_matches_48 : decode cX9_matches 48 = .ok (.iaload, 1) := by decide +kernel
theorem dX9_matches_49 : decode cX9_matches 49 = .ok (.ireturn, 1) := by decide +kernel
theorem dX9_failing_0 : decode cX9_failing 0 = .ok (.aload_n 0, 1) := by decide +kernel
theorem dX9_failing_1 : decode cX9_failing 1 = .ok (.getfield 32, 3) := by decide +kernel
theorem dX9_failing_4 : decode cX9_failing 4 = .ok (.aload_n 0, 1) := by decide +kernel
theorem dX9_failing_5 : decode cX9_failing 5 = .ok (.getfield 28, 3) := by decide +kernel
theorem dX9_failing_8 : decode cX9_failing 8 = .ok (.invokevirtual 103, 3) := by decide +kernel
theorem dX9_failing_11 : decode cX9_failing 11 = .ok (.aload_n 0, 1) := by decide +kernel
theorem dX9_failing_12 : decode cX9_failing 12 = .ok (.getfield 32, 3) := by decide +kernel
theorem dX9_failing_15 : decode cX9_failing 15 = .ok (.invokevirtual 220, 3) := by decide +kernel
theorem dX9_failing_18 : decode cX9_failing 18 = .ok (.ireturn, 1) := by decide +kernel
theorem dX9_run_0 : decode cX9_run 0 = .ok (.iload_n 1, 1) := by decide +kernel
theorem dX9_run_1 : decode cX9_run 1 = .ok (.iconst 1, 1) := by decide +kernel
theorem dX9_run_2 : decode cX9_run 2 = .ok (.if_icmp .lt 9, 3) := by decide +kernel
theorem dX9_run_5 : decode cX9_run 5 = .ok (.iload_n 1, 1) := by decide +kernel
theorem dX9_run_6 : decode cX9_run 6 = .ok (.bipush 20, 2) := by decide +kernel
theorem dX9_run_8 : decode cX9_run 8 = .ok (.if_icmp .le 6, 3) := by decide +kernel
theorem dX9_run_11 : decode cX9_run 11 = .ok (.ldc 81, 2) := by decide +kernel
theorem dX9_run_13 : decode cX9_run 13 = .ok (.ireturn, 1) := by decide +kernel
theorem dX9_run_14 : decode cX9_run 14 = .ok (.aload_n 0, 1) := by decide +kernel
theorem dX9_run_15 : decode cX9_run 15 = .ok (.getfield 32, 3) := by decide +kernel
theorem dX9_run_18 : decode cX9_run 18 = .ok (.aload_n 0, 1) := by decide +kernel
theorem dX9_run_19 : decode cX9_run 19 = .ok (.getfield 28, 3) := by decide +kernel
theorem dX9_run_22 : decode cX9_run 22 = .ok (.invokevirtual 103, 3) := by decide +kernel
theorem dX9_run_25 : decode cX9_run 25 = .ok (.iconst 0, 1) := by decide +kernel
theorem dX9_run_26 : decode cX9_run 26 = .ok (.istore_n 2, 1) := by decide +kernel
theorem dX9_run_27 : decode cX9_run 27 = .ok (.iload_n 2, 1) := by decide +kernel
theorem dX9_run_28 : decode cX9_run 28 = .ok (.iload_n 1, 1) := by decide +kernel
theorem dX9_run_29 : decode cX9_run 29 = .ok (.if_icmp .ge 17, 3) := by decide +kernel
theorem dX9_run_32 : decode cX9_run 32 = .ok (.aload_n 0, 1) := by decide +kernel
theorem dX9_run_33 : decode cX9_run 33 = .ok (.getfield 32, 3) := by decide +kernel
theorem dX9_run_36 : decode cX9_run 36 = .ok (.invokevirtual 220, 3) := by decide +kernel
theorem dX9_run_39 : decode cX9_run 39 = .ok (.pop, 1) := by decide +kernel
theorem dX9_run_40 : decode cX9_run 40 = .ok (.iinc 2 1, 3) := by decide +kernel
theorem dX9_run_43 : decode cX9_run 43 = .ok (.goto (-16), 3) := by decide +kernel
theorem dX9_run_46 : decode cX9_run 46 = .ok (.aload_n 0, 1) := by decide +kernel
theorem dX9_run_47 : decode cX9_run 47 = .ok (.getfield 32, 3) := by decide +kernel
theorem dX9_run_50 : decode cX9_run 50 = .ok (.getfield 145, 3) := by decide +kernel
theorem dX9_run_53 : decode cX9_run 53 = .ok (.ireturn, 1) := by decide +kernel
theorem dX9_credit_0 : decode cX9_credit 0 = .ok (.aload_n 0, 1) := by decide +kernel
theorem dX9_credit_1 : decode cX9_credit 1 = .ok (.getfield 19, 3) := by decide +kernel
theorem dX9_credit_4 : decode cX9_credit 4 = .ok (.iload_n 1, 1) := by decide +kernel
theorem dX9_credit_5 : decode cX9_credit 5 = .ok (.iload_n 2, 1) := by decide +kernel
theorem dX9_credit_6 : decode cX9_credit 6 = .ok (.invokevirtual 192, 3) := by decide +kernel
theorem dX9_credit_9 : decode cX9_credit 9 = .ok (.ifCond .ne 6, 3) := by decide +kernel
theorem dX9_credit_12 : decode cX9_credit 12 = .ok (.ldc 155, 2) := by decide +kernel
theorem dX9_credit_14 : decode cX9_credit 14 = .ok (.ireturn, 1) := by decide +kernel
theorem dX9_credit_15 : decode cX9_credit 15 = .ok (.aload_n 0, 1) := by decide +kernel
theorem dX9_credit_16 : decode cX9_credit 16 = .ok (.getfield 28, 3) := by decide +kernel
theorem dX9_credit_19 : decode cX9_credit 19 = .ok (.iload_n 1, 1) := by decide +kernel
theorem dX9_credit_20 : decode cX9_credit 20 = .ok (.iload_n 2, 1) := by decide +kernel
theorem dX9_credit_21 : decode cX9_credit 21 = .ok (.invokevirtual 196, 3) := by decide +kernel
theorem dX9_credit_24 : decode cX9_credit 24 = .ok (.istore_n 3, 1) := by decide +kernel
theorem dX9_credit_25 : decode cX9_credit 25 = .ok (.aload_n 0, 1) := by decide +kernel
theorem dX9_credit_26 : decode cX9_credit 26 = .ok (.getfield 28, 3) := by decide +kernel
theorem dX9_credit_29 : decode cX9_credit 29 = .ok (.getfield 156, 3) := by decide +kernel
theorem dX9_credit_32 : decode cX9_credit 32 = .ok (.iload_n 2, 1) := by decide +kernel
theorem dX9_credit_33 : decode cX9_credit 33 = .ok (.iaload, 1) := by decide +kernel
theorem dX9_credit_34 : decode cX9_credit 34 = .ok (.aload_n 0, 1) := by decide +kernel
theorem dX9_credit_35 : decode cX9_credit 35 = .ok (.getfield 19, 3) := by decide +kernel
theorem dX9_credit_38 : decode cX9_credit 38 = .ok (.getfield 163, 3) := by decide +kernel
theorem dX9_credit_41 : decode cX9_credit 41 = .ok (.iload_n 2, 1) := by decide +kernel
theorem dX9_credit_42 : decode cX9_credit 42 = .ok (.iaload, 1) := by decide +kernel
theorem dX9_credit_43 : decode cX9_credit 43 = .ok (.iload_n 3, 1) := by decide +kernel
theorem dX9_credit_44 : decode cX9_credit 44 = .ok (.isub, 1) := by decide +kernel
theorem dX9_credit_45 : decode cX9_credit 45 = .ok (.invokestatic 277, 3) := by decide +kernel
theorem dX9_credit_48 : decode cX9_credit 48 = .ok (.istore 4, 2) := by decide +kernel
theorem dX9_credit_50 : decode cX9_credit 50 = .ok (.iload 4, 2) := by decide +kernel
theorem dX9_credit_52 : decode cX9_credit 52 = .ok (.ifCond .lt 22, 3) := by decide +kernel
theorem dX9_credit_55 : decode cX9_credit 55 = .ok (.iload 4, 2) := by decide +kernel
theorem dX9_credit_57 : decode cX9_credit 57 = .ok (.ifCond .le 19, 3) := by decide +kernel
theorem dX9_credit_60 : decode cX9_credit 60 = .ok (.aload_n 0, 1) := by decide +kernel
theorem dX9_credit_61 : decode cX9_credit 61 = .ok (.getfield 28, 3) := by decide +kernel
theorem dX9_credit_64 : decode cX9_credit 64 = .ok (.iload_n 1, 1) := by decide +kernel
theorem dX9_credit_65 : decode cX9_credit 65 = .ok (.iload_n 2, 1) := by decide +kernel
theorem dX9_credit_66 : decode cX9_credit 66 = .ok (.iload 4, 2) := by decide +kernel
theorem dX9_credit_68 : decode cX9_credit 68 = .ok (.invokevirtual 202, 3) := by decide +kernel
theorem dX9_credit_71 : decode cX9_credit 71 = .ok (.ifCond .ne 5, 3) := by decide +kernel
theorem dX9_credit_74 : decode cX9_credit 74 = .ok (.iconst (-1), 1) := by decide +kernel
theorem dX9_credit_75 : decode cX9_credit 75 = .ok (.ireturn, 1) := by decide +kernel
theorem dX9_credit_76 : decode cX9_credit 76 = .ok (.aload_n 0, 1) := by decide +kernel
theorem dX9_credit_77 : decode cX9_credit 77 = .ok (.getfield 28, 3) := by decide +kernel
theorem dX9_credit_80 : decode cX9_credit 80 = .ok (.iload_n 2, 1) := by decide +kernel
theorem dX9_credit_81 : decode cX9_credit 81 = .ok (.iload_n 3, 1) := by decide +kernel
theorem dX9_credit_82 : decode cX9_credit 82 = .ok (.iload 4, 2) := by decide +kernel
theorem dX9_credit_84 : decode cX9_credit 84 = .ok (.iadd, 1) := by decide +kernel
theorem dX9_credit_85 : decode cX9_credit 85 = .ok (.aload_n 0, 1) := by decide +kernel
theorem dX9_credit_86 : decode cX9_credit 86 = .ok (.getfield 28, 3) := by decide +kernel
theorem dX9_credit_89 : decode cX9_credit 89 = .ok (.iload_n 1, 1) := by decide +kernel
theorem dX9_credit_90 : decode cX9_credit 90 = .ok (.iload_n 2, 1) := by decide +kernel
theorem dX9_credit_91 : decode cX9_credit 91 = .ok (.invokevirtual 282, 3) := by decide +kernel
theorem dX9_credit_94 : decode cX9_credit 94 = .ok (.invokevirtual 285, 3) := by decide +kernel
theorem dX9_credit_97 : decode cX9_credit 97 = .ok (.iconst 1, 1) := by decide +kernel
theorem dX9_credit_98 : decode cX9_credit 98 = .ok (.if_icmp .ne 8, 3) := by decide +kernel
theorem dX9_credit_101 : decode cX9_credit 101 = .ok (.iload 4, 2) := by decide +kernel
theorem dX9_credit_103 : decode cX9_credit 103 = .ok (.goto 4, 3) := by decide +kernel
theorem dX9_credit_106 : decode cX9_credit 106 = .ok (.iconst (-1), 1) := by decide +kernel
theorem dX9_credit_107 : decode cX9_credit 107 = .ok (.ireturn, 1) := by decide +kernel
theorem dX9_rumours_0 : decode cX9_rumours 0 = .ok (.iload_n 1, 1) := by decide +kernel
theorem dX9_rumours_1 : decode cX9_rumours 1 = .ok (.ifCond .lt 19, 3) := by decide +kernel
theorem dX9_rumours_4 : decode cX9_rumours 4 = .ok (.iload_n 1, 1) := by decide +kernel
theorem dX9_rumours_5 : decode cX9_rumours 5 = .ok (.bipush 60, 2) := by decide +kernel
theorem dX9_rumours_7 : decode cX9_rumours 7 = .ok (.if_icmp .gt 13, 3) := by decide +kernel
theorem dX9_rumours_10 : decode cX9_rumours 10 = .ok (.iload_n 2, 1) := by decide +kernel
theorem dX9_rumours_11 : decode cX9_rumours 11 = .ok (.ifCond .lt 9, 3) := by decide +kernel
theorem dX9_rumours_14 : decode cX9_rumours 14 = .ok (.iload_n 2, 1) := by decide +kernel
theorem dX9_rumours_15 : decode cX9_rumours 15 = .ok (.bipush 100, 2) := by decide +kernel
theorem dX9_rumours_17 : decode cX9_rumours 17 = .ok (.if_icmp .le 6, 3) := by decide +kernel
theorem dX9_rumours_20 : decode cX9_rumours 20 = .ok (.ldc 81, 2) := by decide +kernel
theorem dX9_rumours_22 : decode cX9_rumours 22 = .ok (.ireturn, 1) := by decide +kernel
theorem dX9_rumours_23 : decode cX9_rumours 23 = .ok (.ldc2_w 289, 3) := by decide +kernel
theorem dX9_rumours_26 : decode cX9_rumours 26 = .ok (.lstore_n 3, 1) := by decide +kernel
theorem dX9_rumours_27 : decode cX9_rumours 27 = .ok (.iconst 0, 1) := by decide +kernel
theorem dX9_rumours_28 : decode cX9_rumours 28 = .ok (.istore 5, 2) := by decide +kernel
theorem dX9_rumours_30 : decode cX9_rumours 30 = .ok (.iload 5, 2) := by decide +kernel
theorem dX9_rumours_32 : decode cX9_rumours 32 = .ok (.iload_n 1, 1) := by decide +kernel
theorem dX9_rumours_33 : decode cX9_rumours 33 = .ok (.if_icmp .ge 21, 3) := by decide +kernel
theorem dX9_rumours_36 : decode cX9_rumours 36 = .ok (.lload_n 3, 1) := by decide +kernel
theorem dX9_rumours_37 : decode cX9_rumours 37 = .ok (.bipush 100, 2) := by decide +kernel
theorem dX9_rumours_39 : decode cX9_rumours 39 = .ok (.iload_n 2, 1) := by decide +kernel
theorem dX9_rumours_40 : decode cX9_rumours 40 = .ok (.isub, 1) := by decide +kernel
theorem dX9_rumours_41 : decode cX9_rumours 41 = .ok (.i2l, 1) := by decide +kernel
theorem dX9_rumours_42 : decode cX9_rumours 42 = .ok (.lmul, 1) := by decide +kernel
theorem dX9_rumours_43 : decode cX9_rumours 43 = .ok (.ldc2_w 291, 3) := by decide +kernel
theorem dX9_rumours_46 : decode cX9_rumours 46 = .ok (.ldiv, 1) := by decide +kernel
theorem dX9_rumours_47 : decode cX9_rumours 47 = .ok (.lstore_n 3, 1) := by decide +kernel
theorem dX9_rumours_48 : decode cX9_rumours 48 = .ok (.iinc 5 1, 3) := by decide +kernel
theorem dX9_rumours_51 : decode cX9_rumours 51 = .ok (.goto (-21), 3) := by decide +kernel
theorem dX9_rumours_54 : decode cX9_rumours 54 = .ok (.lload_n 3, 1) := by decide +kernel
theorem dX9_rumours_55 : decode cX9_rumours 55 = .ok (.l2i, 1) := by decide +kernel
theorem dX9_rumours_56 : decode cX9_rumours 56 = .ok (.ireturn, 1) := by decide +kernel
theorem dX9_card_0 : decode cX9_card 0 = .ok (.aload_n 0, 1) := by decide +kernel
theorem dX9_card_1 : decode cX9_card 1 = .ok (.getfield 19, 3) := by decide +kernel
theorem dX9_card_4 : decode cX9_card 4 = .ok (.iload_n 1, 1) := by decide +kernel
theorem dX9_card_5 : decode cX9_card 5 = .ok (.iload_n 2, 1) := by decide +kernel
theorem dX9_card_6 : decode cX9_card 6 = .ok (.invokevirtual 192, 3) := by decide +kernel
theorem dX9_card_9 : decode cX9_card 9 = .ok (.ifCond .ne 6, 3) := by decide +kernel
theorem dX9_card_12 : decode cX9_card 12 = .ok (.ldc 155, 2) := by decide +kernel
theorem dX9_card_14 : decode cX9_card 14 = .ok (.ireturn, 1) := by decide +kernel
theorem dX9_card_15 : decode cX9_card 15 = .ok (.iload_n 3, 1) := by decide +kernel
theorem dX9_card_16 : decode cX9_card 16 = .ok (.ifCond .lt 9, 3) := by decide +kernel
theorem dX9_card_19 : decode cX9_card 19 = .ok (.iload_n 3, 1) := by decide +kernel
theorem dX9_card_20 : decode cX9_card 20 = .ok (.bipush 12, 2) := by decide +kernel
theorem dX9_card_22 : decode cX9_card 22 = .ok (.if_icmp .le 6, 3) := by decide +kernel
theorem dX9_card_25 : decode cX9_card 25 = .ok (.ldc 81, 2) := by decide +kernel
theorem dX9_card_27 : decode cX9_card 27 = .ok (.ireturn, 1) := by decide +kernel
theorem dX9_card_28 : decode cX9_card 28 = .ok (.aload_n 0, 1) := by decide +kernel
theorem dX9_card_29 : decode cX9_card 29 = .ok (.getfield 59, 3) := by decide +kernel
theorem dX9_card_32 : decode cX9_card 32 = .ok (.iload_n 1, 1) := by decide +kernel
theorem dX9_card_33 : decode cX9_card 33 = .ok (.iload_n 2, 1) := by decide +kernel
theorem dX9_card_34 : decode cX9_card 34 = .ok (.iload_n 3, 1) := by decide +kernel
theorem dX9_card_35 : decode cX9_card 35 = .ok (.iload 4, 2) := by decide +kernel
theorem dX9_card_37 : decode cX9_card 37 = .ok (.invokevirtual 293, 3) := by decide +kernel
theorem dX9_card_40 : decode cX9_card 40 = .ok (.ifCond .eq 13, 3) := by decide +kernel
theorem dX9_card_43 : decode cX9_card 43 = .ok (.aload_n 0, 1) := by decide +kernel
theorem dX9_card_44 : decode cX9_card 44 = .ok (.getfield 59, 3) := by decide +kernel
theorem dX9_card_47 : decode cX9_card 47 = .ok (.getfield 109, 3) := by decide +kernel
theorem dX9_card_50 : decode cX9_card 50 = .ok (.goto 5, 3) := by decide +kernel
theorem dX9_card_53 : decode cX9_card 53 = .ok (.ldc 89, 2) := by decide +kernel
theorem dX9_card_55 : decode cX9_card 55 = .ok (.ireturn, 1) := by decide +kernel
theorem dX9_had_0 : decode cX9_had 0 = .ok (.aload_n 0, 1) := by decide +kernel
theorem dX9_had_1 : decode cX9_had 1 = .ok (.getfield 19, 3) := by decide +kernel
theorem dX9_had_4 : decode cX9_had 4 = .ok (.iload_n 1, 1) := by decide +kernel
theorem dX9_had_5 : decode cX9_had 5 = .ok (.iload_n 2, 1) := by decide +kernel
theorem dX9_had_6 : decode cX9_had 6 = .ok (.invokevirtual 192, 3) := by decide +kernel
theorem dX9_had_9 : decode cX9_had 9 = .ok (.ifCond .ne 6, 3) := by decide +kernel
theorem dX9_had_12 : decode cX9_had 12 = .ok (.ldc 155, 2) := by decide +kernel
theorem dX9_had_14 : decode cX9_had 14 = .ok (.ireturn, 1) := by decide +kernel
theorem dX9_had_15 : decode cX9_had 15 = .ok (.iload_n 3, 1) := by decide +kernel
theorem dX9_had_16 : decode cX9_had 16 = .ok (.ifCond .lt 8, 3) := by decide +kernel
theorem dX9_had_19 : decode cX9_had 19 = .ok (.iload_n 3, 1) := by decide +kernel
theorem dX9_had_20 : decode cX9_had 20 = .ok (.iconst 2, 1) := by decide +kernel
theorem dX9_had_21 : decode cX9_had 21 = .ok (.if_icmp .le 6, 3) := by decide +kernel
theorem dX9_had_24 : decode cX9_had 24 = .ok (.ldc 81, 2) := by decide +kernel
theorem dX9_had_26 : decode cX9_had 26 = .ok (.ireturn, 1) := by decide +kernel
theorem dX9_had_27 : decode cX9_had 27 = .ok (.aload_n 0, 1) := by decide +kernel
theorem dX9_had_28 : decode cX9_had 28 = .ok (.getfield 59, 3) := by decide +kernel
theorem dX9_had_31 : decode cX9_had 31 = .ok (.aload_n 0, 1) := by decide +kernel
theorem dX9_had_32 : decode cX9_had 32 = .ok (.getfield 19, 3) := by decide +kernel
theorem dX9_had_35 : decode cX9_had 35 = .ok (.iload_n 1, 1) := by decide +kernel
theorem dX9_had_36 : decode cX9_had 36 = .ok (.iload_n 2, 1) := by decide +kernel
theorem dX9_had_37 : decode cX9_had 37 = .ok (.invokevirtual 296, 3) := by decide +kernel
theorem dX9_had_40 : decode cX9_had 40 = .ok (.iload_n 3, 1) := by decide +kernel
theorem dX9_had_41 : decode cX9_had 41 = .ok (.ifCond .ne 13, 3) := by decide +kernel
theorem dX9_had_44 : decode cX9_had 44 = .ok (.aload_n 0, 1) := by decide +kernel
theorem dX9_had_45 : decode cX9_had 45 = .ok (.getfield 59, 3) := by decide +kernel
theorem dX9_had_48 : decode cX9_had 48 = .ok (.getfield 300, 3) := by decide +kernel
theorem dX9_had_51 : decode cX9_had 51 = .ok (.goto 25, 3) := by decide +kernel
theorem dX9_had_54 : decode cX9_had 54 = .ok (.iload_n 3, 1) := by decide +kernel
theorem dX9_had_55 : decode cX9_had 55 = .ok (.iconst 1, 1) := by decide +kernel
theorem dX9_had_56 : decode cX9_had 56 = .ok (.if_icmp .ne 13, 3) := by decide +kernel
theorem dX9_had_59 : decode cX9_had 59 = .ok (.aload_n 0, 1) := by decide +kernel
theorem dX9_had_60 : decode cX9_had 60 = .ok (.getfield 59, 3) := by decide +kernel
theorem dX9_had_63 : decode cX9_had 63 = .ok (.invokevirtual 303, 3) := by decide +kernel
theorem dX9_had_66 : decode cX9_had 66 = .ok (.goto 10, 3) := by decide +kernel
theorem dX9_had_69 : decode cX9_had 69 = .ok (.aload_n 0, 1) := by decide +kernel
theorem dX9_had_70 : decode cX9_had 70 = .ok (.getfield 59, 3) := by decide +kernel
theorem dX9_had_73 : decode cX9_had 73 = .ok (.invokevirtual 306, 3) := by decide +kernel
theorem dX9_had_76 : decode cX9_had 76 = .ok (.ireturn, 1) := by decide +kernel
theorem dX9_lookAt_0 : decode cX9_lookAt 0 = .ok (.aload_n 0, 1) := by decide +kernel
theorem dX9_lookAt_1 : decode cX9_lookAt 1 = .ok (.getfield 19, 3) := by decide +kernel
theorem dX9_lookAt_4 : decode cX9_lookAt 4 = .ok (.iload_n 1, 1) := by decide +kernel
theorem dX9_lookAt_5 : decode cX9_lookAt 5 = .ok (.iload_n 2, 1) := by decide +kernel
theorem dX9_lookAt_6 : decode cX9_lookAt 6 = .ok (.invokevirtual 192, 3) := by decide +kernel
theorem dX9_lookAt_9 : decode cX9_lookAt 9 = .ok (.ifCond .ne 6, 3) := by decide +kernel
theorem dX9_lookAt_12 : decode cX9_lookAt 12 = .ok (.ldc 155, 2) := by decide +kernel
theorem dX9_lookAt_14 : decode cX9_lookAt 14 = .ok (.ireturn, 1) := by decide +kernel
theorem dX9_lookAt_15 : decode cX9_lookAt 15 = .ok (.aload_n 0, 1) := by decide +kernel
theorem dX9_lookAt_16 : decode cX9_lookAt 16 = .ok (.getfield 59, 3) := by decide +kernel
theorem dX9_lookAt_19 : decode cX9_lookAt 19 = .ok (.aload_n 0, 1) := by decide +kernel
theorem dX9_lookAt_20 : decode cX9_lookAt 20 = .ok (.getfield 19, 3) := by decide +kernel
theorem dX9_lookAt_23 : decode cX9_lookAt 23 = .ok (.iload_n 1, 1) := by decide +kernel
theorem dX9_lookAt_24 : decode cX9_lookAt 24 = .ok (.iload_n 2, 1) := by decide +kernel
theorem dX9_lookAt_25 : decode cX9_lookAt 25 = .ok (.invokevirtual 296, 3) := by decide +kernel
theorem dX9_lookAt_28 : decode cX9_lookAt 28 = .ok (.aload_n 0, 1) := by decide +kernel
theorem dX9_lookAt_29 : decode cX9_lookAt 29 = .ok (.getfield 59, 3) := by decide +kernel
theorem dX9_lookAt_32 : decode cX9_lookAt 32 = .ok (.aload_n 0, 1) := by decide +kernel
theorem dX9_lookAt_33 : decode cX9_lookAt 33 = .ok (.getfield 19, 3) := by decide +kernel
theorem dX9_lookAt_36 : decode cX9_lookAt 36 = .ok (.iload_n 2, 1) := by decide +kernel
theorem dX9_lookAt_37 : decode cX9_lookAt 37 = .ok (.invokevirtual 309, 3) := by decide +kernel
theorem dX9_lookAt_40 : decode cX9_lookAt 40 = .ok (.ireturn, 1) := by decide +kernel
theorem dX9_write_0 : decode cX9_write 0 = .ok (.aload_n 0, 1) := by decide +kernel
theorem dX9_write_1 : decode cX9_write 1 = .ok (.getfield 19, 3) := by decide +kernel
theorem dX9_write_4 : decode cX9_write 4 = .ok (.iload_n 1, 1) := by decide +kernel
theorem dX9_write_5 : decode cX9_write 5 = .ok (.invokevirtual 173, 3) := by decide +kernel
theorem dX9_write_8 : decode cX9_write 8 = .ok (.ifCond .ne 6, 3) := by decide +kernel
theorem dX9_write_11 : decode cX9_write 11 = .ok (.ldc 155, 2) := by decide +kernel
theorem dX9_write_13 : decode cX9_write 13 = .ok (.ireturn, 1) := by decide +kernel
theorem dX9_write_14 : decode cX9_write 14 = .ok (.iload_n 2, 1) := by decide +kernel
theorem dX9_write_15 : decode cX9_write 15 = .ok (.bipush (-9), 2) := by decide +kernel
theorem dX9_write_17 : decode cX9_write 17 = .ok (.if_icmp .lt 9, 3) := by decide +kernel
theorem dX9_write_20 : decode cX9_write 20 = .ok (.iload_n 2, 1) := by decide +kernel
theorem dX9_write_21 : decode cX9_write 21 = .ok (.bipush 99, 2) := by decide +kernel
theorem dX9_write_23 : decode cX9_write 23 = .ok (.if_icmp .le 6, 3) := by decide +kernel
theorem dX9_write_26 : decode cX9_write 26 = .ok (.ldc 81, 2) := by decide +kernel
theorem dX9_write_28 : decode cX9_write 28 = .ok (.ireturn, 1) := by decide +kernel
theorem dX9_write_29 : decode cX9_write 29 = .ok (.aload_n 0, 1) := by decide +kernel
theorem dX9_write_30 : decode cX9_write 30 = .ok (.getfield 66, 3) := by decide +kernel
theorem dX9_write_33 : decode cX9_write 33 = .ok (.iload_n 1, 1) := by decide +kernel
theorem dX9_write_34 : decode cX9_write 34 = .ok (.iload_n 2, 1) := by decide +kernel
theorem dX9_write_35 : decode cX9_write 35 = .ok (.invokevirtual 313, 3) := by decide +kernel
theorem dX9_write_38 : decode cX9_write 38 = .ok (.ifCond .eq 13, 3) := by decide +kernel
theorem dX9_write_41 : decode cX9_write 41 = .ok (.aload_n 0, 1) := by decide +kernel
theorem dX9_write_42 : decode cX9_write 42 = .ok (.getfield 66, 3) := by decide +kernel
theorem dX9_write_45 : decode cX9_write 45 = .ok (.getfield 112, 3) := by decide +kernel
theorem dX9_write_48 : decode cX9_write 48 = .ok (.goto 5, 3) := by decide +kernel
theorem dX9_write_51 : decode cX9_write 51 = .ok (.ldc 89, 2) := by decide +kernel
theorem dX9_write_53 : decode cX9_write 53 = .ok (.ireturn, 1) := by decide +kernel
theorem dX9_judge_0 : decode cX9_judge 0 = .ok (.aload_n 0, 1) := by decide +kernel
theorem dX9_judge_1 : decode cX9_judge 1 = .ok (.getfield 66, 3) := by decide +kernel
theorem dX9_judge_4 : decode cX9_judge 4 = .ok (.aload_n 0, 1) := by decide +kernel
theorem dX9_judge_5 : decode cX9_judge 5 = .ok (.getfield 28, 3) := by decide +kernel
theorem dX9_judge_8 : decode cX9_judge 8 = .ok (.invokevirtual 315, 3) := by decide +kernel
theorem dX9_judge_11 : decode cX9_judge 11 = .ok (.ireturn, 1) := by decide +kernel
theorem dX9_tear_0 : decode cX9_tear 0 = .ok (.aload_n 0, 1) := by decide +kernel
theorem dX9_tear_1 : decode cX9_tear 1 = .ok (.getfield 59, 3) := by decide +kernel
theorem dX9_tear_4 : decode cX9_tear 4 = .ok (.getfield 109, 3) := by decide +kernel
theorem dX9_tear_7 : decode cX9_tear 7 = .ok (.aload_n 0, 1) := by decide +kernel
theorem dX9_tear_8 : decode cX9_tear 8 = .ok (.getfield 66, 3) := by decide +kernel
theorem dX9_tear_11 : decode cX9_tear 11 = .ok (.getfield 112, 3) := by decide +kernel
theorem dX9_tear_14 : decode cX9_tear 14 = .ok (.iadd, 1) := by decide +kernel
theorem dX9_tear_15 : decode cX9_tear 15 = .ok (.istore_n 1, 1) := by decide +kernel
theorem dX9_tear_16 : decode cX9_tear 16 = .ok (.aload_n 0, 1) := by decide +kernel
theorem dX9_tear_17 : decode cX9_tear 17 = .ok (.getfield 59, 3) := by decide +kernel
theorem dX9_tear_20 : decode cX9_tear 20 = .ok (.iconst 0, 1) := by decide +kernel
theorem dX9_tear_21 : decode cX9_tear 21 = .ok (.putfield 109, 3) := by decide +kernel
theorem dX9_tear_24 : decode cX9_tear 24 = .ok (.aload_n 0, 1) := by decide +kernel
theorem dX9_tear_25 : decode cX9_tear 25 = .ok (.getfield 66, 3) := by decide +kernel
theorem dX9_tear_28 : decode cX9_tear 28 = .ok (.iconst 0, 1) := by decide +kernel
theorem dX9_tear_29 : decode cX9_tear 29 = .ok (.putfield 112, 3) := by decide +kernel
theorem dX9_tear_32 : decode cX9_tear 32 = .ok (.iload_n 1, 1) := by decide +kernel
theorem dX9_tear_33 : decode cX9_tear 33 = .ok (.ireturn, 1) := by decide +kernel
theorem dX9_seed_0 : decode cX9_seed 0 = .ok (.iload_n 1, 1) := by decide +kernel
theorem dX9_seed_1 : decode cX9_seed 1 = .ok (.ifCond .ge 6, 3) := by decide +kernel
theorem dX9_seed_4 : decode cX9_seed 4 = .ok (.ldc 81, 2) := by decide +kernel
theorem dX9_seed_6 : decode cX9_seed 6 = .ok (.ireturn, 1) := by decide +kernel
theorem dX9_seed_7 : decode cX9_seed 7 = .ok (.aload_n 0, 1) := by decide +kernel
theorem dX9_seed_8 : decode cX9_seed 8 = .ok (.getfield 77, 3) := by decide +kernel
theorem dX9_seed_11 : decode cX9_seed 11 = .ok (.istore_n 2, 1) := by decide +kernel
theorem dX9_seed_12 : decode cX9_seed 12 = .ok (.aload_n 0, 1) := by decide +kernel
theorem dX9_seed_13 : decode cX9_seed 13 = .ok (.iload_n 1, 1) := by decide +kernel
theorem dX9_seed_14 : decode cX9_seed 14 = .ok (.putfield 77, 3) := by decide +kernel
theorem dX9_seed_17 : decode cX9_seed 17 = .ok (.iload_n 2, 1) := by decide +kernel
theorem dX9_seed_18 : decode cX9_seed 18 = .ok (.ireturn, 1) := by decide +kernel
theorem dX9_keep_0 : decode cX9_keep 0 = .ok (.iload_n 1, 1) := by decide +kernel
theorem dX9_keep_1 : decode cX9_keep 1 = .ok (.ifCond .lt 8, 3) := by decide +kernel
theorem dX9_keep_4 : decode cX9_keep 4 = .ok (.iload_n 1, 1) := by decide +kernel
theorem dX9_keep_5 : decode cX9_keep 5 = .ok (.iconst 2, 1) := by decide +kernel
theorem dX9_keep_6 : decode cX9_keep 6 = .ok (.if_icmp .lt 6, 3) := by decide +kernel
theorem dX9_keep_9 : decode cX9_keep 9 = .ok (.ldc 155, 2) := by decide +kernel
theorem dX9_keep_11 : decode cX9_keep 11 = .ok (.ireturn, 1) := by decide +kernel
theorem dX9_keep_12 : decode cX9_keep 12 = .ok (.aload_n 0, 1) := by decide +kernel
theorem dX9_keep_13 : decode cX9_keep 13 = .ok (.getfield 72, 3) := by decide +kernel
theorem dX9_keep_16 : decode cX9_keep 16 = .ok (.iload_n 1, 1) := by decide +kernel
theorem dX9_keep_17 : decode cX9_keep 17 = .ok (.aaload, 1) := by decide +kernel
theorem dX9_keep_18 : decode cX9_keep 18 = .ok (.getfield 318, 3) := by decide +kernel
theorem dX9_keep_21 : decode cX9_keep 21 = .ok (.aload_n 0, 1) := by decide +kernel
theorem dX9_keep_22 : decode cX9_keep 22 = .ok (.getfield 28, 3) := by decide +kernel
theorem dX9_keep_25 : decode cX9_keep 25 = .ok (.invokevirtual 103, 3) := by decide +kernel
theorem dX9_keep_28 : decode cX9_keep 28 = .ok (.aload_n 0, 1) := by decide +kernel
theorem dX9_keep_29 : decode cX9_keep 29 = .ok (.getfield 72, 3) := by decide +kernel
theorem dX9_keep_32 : decode cX9_keep 32 = .ok (.iload_n 1, 1) := by decide +kernel
theorem dX9_keep_33 : decode cX9_keep 33 = .ok (.aaload, 1) := by decide +kernel
theorem dX9_keep_34 : decode cX9_keep 34 = .ok (.aload_n 0, 1) := by decide +kernel
theorem dX9_keep_35 : decode cX9_keep 35 = .ok (.getfield 77, 3) := by decide +kernel
theorem dX9_keep_38 : decode cX9_keep 38 = .ok (.putfield 319, 3) := by decide +kernel
theorem dX9_keep_41 : decode cX9_keep 41 = .ok (.aload_n 0, 1) := by decide +kernel
theorem dX9_keep_42 : decode cX9_keep 42 = .ok (.getfield 72, 3) := by decide +kernel
theorem dX9_keep_45 : decode cX9_keep 45 = .ok (.iload_n 1, 1) := by decide +kernel
theorem dX9_keep_46 : decode cX9_keep 46 = .ok (.aaload, 1) := by decide +kernel
theorem dX9_keep_47 : decode cX9_keep 47 = .ok (.iconst 1, 1) := by decide +kernel
theorem dX9_keep_48 : decode cX9_keep 48 = .ok (.putfield 113, 3) := by decide +kernel
theorem dX9_keep_51 : decode cX9_keep 51 = .ok (.aload_n 0, 1) := by decide +kernel
theorem dX9_keep_52 : decode cX9_keep 52 = .ok (.getfield 38, 3) := by decide +kernel
theorem dX9_keep_55 : decode cX9_keep 55 = .ok (.invokevirtual 106, 3) := by decide +kernel
theorem dX9_keep_58 : decode cX9_keep 58 = .ok (.iconst 1, 1) := by decide +kernel
theorem dX9_keep_59 : decode cX9_keep 59 = .ok (.ireturn, 1) := by decide +kernel
theorem dX9_goBack_0 : decode cX9_goBack 0 = .ok (.iload_n 1, 1) := by decide +kernel
theorem dX9_goBack_1 : decode cX9_goBack 1 = .ok (.ifCond .lt 8, 3) := by decide +kernel
theorem dX9_goBack_4 : decode cX9_goBack 4 = .ok (.iload_n 1, 1) := by decide +kernel
theorem dX9_goBack_5 : decode cX9_goBack 5 = .ok (.iconst 2, 1) := by decide +kernel
theorem dX9_goBack_6 : decode cX9_goBack 6 = .ok (.if_icmp .lt 6, 3) := by decide +kernel
theorem dX9_goBack_9 : decode cX9_goBack 9 = .ok (.ldc 155, 2) := by decide +kernel
theorem dX9_goBack_11 : decode cX9_goBack 11 = .ok (.ireturn, 1) := by decide +kernel
theorem dX9_goBack_12 : decode cX9_goBack 12 = .ok (.aload_n 0, 1) := by decide +kernel
theorem dX9_goBack_13 : decode cX9_goBack 13 = .ok (.getfield 72, 3) := by decide +kernel
theorem dX9_goBack_16 : decode cX9_goBack 16 = .ok (.iload_n 1, 1) := by decide +kernel
theorem dX9_goBack_17 : decode cX9_goBack 17 = .ok (.aaload, 1) := by decide +kernel
theorem dX9_goBack_18 : decode cX9_goBack 18 = .ok (.getfield 113, 3) := by decide +kernel
theorem dX9_goBack_21 : decode cX9_goBack 21 = .ok (.ifCond .ne 6, 3) := by decide +kernel
theorem dX9_goBack_24 : decode cX9_goBack 24 = .ok (.ldc 206, 2) := by decide +kernel
theorem dX9_goBack_26 : decode cX9_goBack 26 = .ok (.ireturn, 1) := by decide +kernel
theorem dX9_goBack_27 : decode cX9_goBack 27 = .ok (.aload_n 0, 1) := by decide +kernel
theorem dX9_goBack_28 : decode cX9_goBack 28 = .ok (.getfield 28, 3) := by decide +kernel
theorem dX9_goBack_31 : decode cX9_goBack 31 = .ok (.aload_n 0, 1) := by decide +kernel
theorem dX9_goBack_32 : decode cX9_goBack 32 = .ok (.getfield 72, 3) := by decide +kernel
theorem dX9_goBack_35 : decode cX9_goBack 35 = .ok (.iload_n 1, 1) := by decide +kernel
theorem dX9_goBack_36 : decode cX9_goBack 36 = .ok (.aaload, 1) := by decide +kernel
theorem dX9_goBack_37 : decode cX9_goBack 37 = .ok (.getfield 318, 3) := by decide +kernel
theorem dX9_goBack_40 : decode cX9_goBack 40 = .ok (.invokevirtual 103, 3) := by decide +kernel
theorem dX9_goBack_43 : decode cX9_goBack 43 = .ok (.aload_n 0, 1) := by decide +kernel
theorem dX9_goBack_44 : decode cX9_goBack 44 = .ok (.aload_n 0, 1) := by decide +kernel
theorem dX9_goBack_45 : decode cX9_goBack 45 = .ok (.getfield 72, 3) := by decide +kernel
theorem dX9_goBack_48 : decode cX9_goBack 48 = .ok (.iload_n 1, 1) := by decide +kernel
theorem dX9_goBack_49 : decode cX9_goBack 49 = .ok (.aaload, 1) := by decide +kernel
theorem dX9_goBack_50 : decode cX9_goBack 50 = .ok (.getfield 319, 3) := by decide +kernel
theorem dX9_goBack_53 : decode cX9_goBack 53 = .ok (.putfield 77, 3) := by decide +kernel
theorem dX9_goBack_56 : decode cX9_goBack 56 = .ok (.aload_n 0, 1) := by decide +kernel
theorem dX9_goBack_57 : decode cX9_goBack 57 = .ok (.getfield 38, 3) := by decide +kernel
theorem dX9_goBack_60 : decode cX9_goBack 60 = .ok (.invokevirtual 106, 3) := by decide +kernel
theorem dX9_goBack_63 : decode cX9_goBack 63 = .ok (.iconst 1, 1) := by decide +kernel
theorem dX9_goBack_64 : decode cX9_goBack 64 = .ok (.ireturn, 1) := by decide +kernel
theorem dX9_refusalOfQuarters_0 : decode cX9_refusalOfQuarters 0 = .ok (.iload_n 1, 1) := by decide +kernel
theorem dX9_refusalOfQuarters_1 : decode cX9_refusalOfQuarters 1 = .ok (.iconst 1, 1) := by decide +kernel
theorem dX9_refusalOfQuarters_2 : decode cX9_refusalOfQuarters 2 = .ok (.if_icmp .lt 9, 3) := by decide +kernel
theorem dX9_refusalOfQuarters_5 : decode cX9_refusalOfQuarters 5 = .ok (.iload_n 1, 1) := by decide +kernel
theorem dX9_refusalOfQuarters_6 : decode cX9_refusalOfQuarters 6 = .ok (.bipush 20, 2) := by decide +kernel
theorem dX9_refusalOfQuarters_8 : decode cX9_refusalOfQuarters 8 = .ok (.if_icmp .le 6, 3) := by decide +kernel
theorem dX9_refusalOfQuarters_11 : decode cX9_refusalOfQuarters 11 = .ok (.ldc 81, 2) := by decide +kernel
theorem dX9_refusalOfQuarters_13 : decode cX9_refusalOfQuarters 13 = .ok (.ireturn, 1) := by decide +kernel
theorem dX9_refusalOfQuarters_14 : decode cX9_refusalOfQuarters 14 = .ok (.aload_n 0, 1) := by decide +kernel
theorem dX9_refusalOfQuarters_15 : decode cX9_refusalOfQuarters 15 = .ok (.getfield 19, 3) := by decide +kernel
theorem dX9_refusalOfQuarters_18 : decode cX9_refusalOfQuarters 18 = .ok (.getfield 123, 3) := by decide +kernel
theorem dX9_refusalOfQuarters_21 : decode cX9_refusalOfQuarters 21 = .ok (.ifCond .ne 6, 3) := by decide +kernel
theorem dX9_refusalOfQuarters_24 : decode cX9_refusalOfQuarters 24 = .ok (.ldc 206, 2) := by decide +kernel
theorem dX9_refusalOfQuarters_26 : decode cX9_refusalOfQuarters 26 = .ok (.ireturn, 1) := by decide +kernel
theorem dX9_refusalOfQuarters_27 : decode cX9_refusalOfQuarters 27 = .ok (.aload_n 0, 1) := by decide +kernel
theorem dX9_refusalOfQuarters_28 : decode cX9_refusalOfQuarters 28 = .ok (.getfield 28, 3) := by decide +kernel
theorem dX9_refusalOfQuarters_31 : decode cX9_refusalOfQuarters 31 = .ok (.getfield 135, 3) := by decide +kernel
theorem dX9_refusalOfQuarters_34 : decode cX9_refusalOfQuarters 34 = .ok (.sipush 9000, 3) := by decide +kernel
theorem dX9_refusalOfQuarters_37 : decode cX9_refusalOfQuarters 37 = .ok (.if_icmp .le 8, 3) := by decide +kernel
theorem dX9_refusalOfQuarters_40 : decode cX9_refusalOfQuarters 40 = .ok (.ldc 89, 2) := by decide +kernel
theorem dX9_refusalOfQuarters_42 : decode cX9_refusalOfQuarters 42 = .ok (.goto 4, 3) := by decide +kernel
theorem dX9_refusalOfQuarters_45 : decode cX9_refusalOfQuarters 45 = .ok (.iconst 0, 1) := by decide +kernel
theorem dX9_refusalOfQuarters_46 : decode cX9_refusalOfQuarters 46 = .ok (.ireturn, 1) := by decide +kernel
theorem dX9_refusalOfPair_0 : decode cX9_refusalOfPair 0 = .ok (.aload_n 0, 1) := by decide +kernel
theorem dX9_refusalOfPair_1 : decode cX9_refusalOfPair 1 = .ok (.getfield 19, 3) := by decide +kernel
theorem dX9_refusalOfPair_4 : decode cX9_refusalOfPair 4 = .ok (.iload_n 1, 1) := by decide +kernel
theorem dX9_refusalOfPair_5 : decode cX9_refusalOfPair 5 = .ok (.invokevirtual 176, 3) := by decide +kernel
theorem dX9_refusalOfPair_8 : decode cX9_refusalOfPair 8 = .ok (.ifCond .eq 14, 3) := by decide +kernel
theorem dX9_refusalOfPair_11 : decode cX9_refusalOfPair 11 = .ok (.aload_n 0, 1) := by decide +kernel
theorem dX9_refusalOfPair_12 : decode cX9_refusalOfPair 12 = .ok (.getfield 19, 3) := by decide +kernel
theorem dX9_refusalOfPair_15 : decode cX9_refusalOfPair 15 = .ok (.iload_n 2, 1) := by decide +kernel
theorem dX9_refusalOfPair_16 : decode cX9_refusalOfPair 16 = .ok (.invokevirtual 320, 3) := by decide +kernel
theorem dX9_refusalOfPair_19 : decode cX9_refusalOfPair 19 = .ok (.ifCond .ne 6, 3) := by decide +kernel
theorem dX9_refusalOfPair_22 : decode cX9_refusalOfPair 22 = .ok (.ldc 155, 2) := by decide +kernel
theorem dX9_refusalOfPair_24 : decode cX9_refusalOfPair 24 = .ok (.ireturn, 1) := by decide +kernel
theorem dX9_refusalOfPair_25 : decode cX9_refusalOfPair 25 = .ok (.aload_n 0, 1) := by decide +kernel
theorem dX9_refusalOfPair_26 : decode cX9_refusalOfPair 26 = .ok (.getfield 28, 3) := by decide +kernel
theorem dX9_refusalOfPair_29 : decode cX9_refusalOfPair 29 = .ok (.getfield 179, 3) := by decide +kernel
theorem dX9_refusalOfPair_32 : decode cX9_refusalOfPair 32 = .ok (.iload_n 1, 1) := by decide +kernel
theorem dX9_refusalOfPair_33 : decode cX9_refusalOfPair 33 = .ok (.iaload, 1) := by decide +kernel
theorem dX9_refusalOfPair_34 : decode cX9_refusalOfPair 34 = .ok (.iconst (-1), 1) := by decide +kernel
theorem dX9_refusalOfPair_35 : decode cX9_refusalOfPair 35 = .ok (.if_icmp .ne 16, 3) := by decide +kernel
theorem dX9_refusalOfPair_38 : decode cX9_refusalOfPair 38 = .ok (.aload_n 0, 1) := by decide +kernel
theorem dX9_refusalOfPair_39 : decode cX9_refusalOfPair 39 = .ok (.getfield 28, 3) := by decide +kernel
theorem dX9_refusalOfPair_42 : decode cX9_refusalOfPair 42 = .ok (.getfield 179, 3) := by decide +kernel
theorem dX9_refusalOfPair_45 : decode cX9_refusalOfPair 45 = .ok (.iload_n 2, 1) := by decide +kernel
theorem dX9_refusalOfPair_46 : decode cX9_refusalOfPair 46 = .ok (.iaload, 1) := by decide +kernel
theorem dX9_refusalOfPair_47 : decode cX9_refusalOfPair 47 = .ok (.iconst (-1), 1) := by decide +kernel
theorem dX9_refusalOfPair_48 : decode cX9_refusalOfPair 48 = .ok (.if_icmp .eq 8, 3) := by decide +kernel
theorem dX9_refusalOfPair_51 : decode cX9_refusalOfPair 51 = .ok (.ldc 206, 2) := by decide +kernel
theorem dX9_refusalOfPair_53 : decode cX9_refusalOfPair 53 = .ok (.goto 4, 3) := by decide +kernel
theorem dX9_refusalOfPair_56 : decode cX9_refusalOfPair 56 = .ok (.iconst 0, 1) := by decide +kernel
theorem dX9_refusalOfPair_57 : decode cX9_refusalOfPair 57 = .ok (.ireturn, 1) := by decide +kernel
theorem dX9_drawOf_0 : decode cX9_drawOf 0 = .ok (.aload_n 0, 1) := by decide +kernel
theorem dX9_drawOf_1 : decode cX9_drawOf 1 = .ok (.aload_n 0, 1) := by decide +kernel
theorem dX9_drawOf_2 : decode cX9_drawOf 2 = .ok (.getfield 77, 3) := by decide +kernel
theorem dX9_drawOf_5 : decode cX9_drawOf 5 = .ok (.i2l, 1) := by decide +kernel
theorem dX9_drawOf_6 : decode cX9_drawOf 6 = .ok (.ldc2_w 323, 3) := by decide +kernel
theorem dX9_drawOf_9 : decode cX9_drawOf 9 = .ok (.lmul, 1) := by decide +kernel
theorem dX9_drawOf_10 : decode cX9_drawOf 10 = .ok (.ldc2_w 325, 3) := by decide +kernel
theorem dX9_drawOf_13 : decode cX9_drawOf 13 = .ok (.ladd, 1) := by decide +kernel
theorem dX9_drawOf_14 : decode cX9_drawOf 14 = .ok (.ldc2_w 327, 3) := by decide +kernel
theorem dX9_drawOf_17 : decode cX9_drawOf 17 = .ok (.land, 1) := by decide +kernel
theorem dX9_drawOf_18 : decode cX9_drawOf 18 = .ok (.l2i, 1) := by decide +kernel
theorem dX9_drawOf_19 : decode cX9_drawOf 19 = .ok (.putfield 77, 3) := by decide +kernel
theorem dX9_drawOf_22 : decode cX9_drawOf 22 = .ok (.iload_n 1, 1) := by decide +kernel
theorem dX9_drawOf_23 : decode cX9_drawOf 23 = .ok (.ifCond .le 16, 3) := by decide +kernel
theorem dX9_drawOf_26 : decode cX9_drawOf 26 = .ok (.aload_n 0, 1) := by decide +kernel
theorem dX9_drawOf_27 : decode cX9_drawOf 27 = .ok (.getfield 77, 3) := by decide +kernel
theorem dX9_drawOf_30 : decode cX9_drawOf 30 = .ok (.ldc_w 329, 3) := by decide +kernel
theorem dX9_drawOf_33 : decode cX9_drawOf 33 = .ok (.idiv, 1) := by decide +kernel
theorem dX9_drawOf_34 : decode cX9_drawOf 34 = .ok (.iload_n 1, 1) := by decide +kernel
theorem dX9_drawOf_35 : decode cX9_drawOf 35 = .ok (.irem, 1) := by decide +kernel
theorem dX9_drawOf_36 : decode cX9_drawOf 36 = .ok (.goto 4, 3) := by decide +kernel
theorem dX9_drawOf_39 : decode cX9_drawOf 39 = .ok (.iconst 0, 1) := by decide +kernel
theorem dX9_drawOf_40 : decode cX9_drawOf 40 = .ok (.ireturn, 1) := by decide +kernel
theorem dX9_borrowByDraws_0 : decode cX9_borrowByDraws 0 = .ok (.aload_n 0, 1) := by decide +kernel
theorem dX9_borrowByDraws_1 : decode cX9_borrowByDraws 1 = .ok (.getfield 19, 3) := by decide +kernel
theorem dX9_borrowByDraws_4 : decode cX9_borrowByDraws 4 = .ok (.getfield 117, 3) := by decide +kernel
theorem dX9_borrowByDraws_7 : decode cX9_borrowByDraws 7 = .ok (.ifCond .ne 4, 3) := by decide +kernel
theorem dX9_borrowByDraws_10 : decode cX9_borrowByDraws 10 = .ok (.return_, 1) := by decide +kernel
theorem dX9_borrowByDraws_11 : decode cX9_borrowByDraws 11 = .ok (.aload_n 0, 1) := by decide +kernel
theorem dX9_borrowByDraws_12 : decode cX9_borrowByDraws 12 = .ok (.aload_n 0, 1) := by decide +kernel
theorem dX9_borrowByDraws_13 : decode cX9_borrowByDraws 13 = .ok (.getfield 19, 3) := by decide +kernel
theorem dX9_borrowByDraws_16 : decode cX9_borrowByDraws 16 = .ok (.getfield 117, 3) := by decide +kernel
theorem dX9_borrowByDraws_19 : decode cX9_borrowByDraws 19 = .ok (.invokevirtual 330, 3) := by decide +kernel
theorem dX9_borrowByDraws_22 : decode cX9_borrowByDraws 22 = .ok (.istore_n 1, 1) := by decide +kernel
theorem dX9_borrowByDraws_23 : decode cX9_borrowByDraws 23 = .ok (.aload_n 0, 1) := by decide +kernel
theorem dX9_borrowByDraws_24 : decode cX9_borrowByDraws 24 = .ok (.aload_n 0, 1) := by decide +kernel
theorem dX9_borrowByDraws_25 : decode cX9_borrowByDraws 25 = .ok (.getfield 19, 3) := by decide +kernel
theorem dX9_borrowByDraws_28 : decode cX9_borrowByDraws 28 = .ok (.getfield 132, 3) := by decide +kernel
theorem dX9_borrowByDraws_31 : decode cX9_borrowByDraws 31 = .ok (.invokevirtual 330, 3) := by decide +kernel
theorem dX9_borrowByDraws_34 : decode cX9_borrowByDraws 34 = .ok (.istore_n 2, 1) := by decide +kernel
theorem dX9_borrowByDraws_35 : decode cX9_borrowByDraws 35 = .ok (.aload_n 0, 1) := by decide +kernel
theorem dX9_borrowByDraws_36 : decode cX9_borrowByDraws 36 = .ok (.bipush 100, 2) := by decide +kernel
theorem dX9_borrowByDraws_38 : decode cX9_borrowByDraws 38 = .ok (.invokevirtual 330, 3) := by decide +kernel
theorem dX9_borrowByDraws_41 : decode cX9_borrowByDraws 41 = .ok (.istore_n 3, 1) := by decide +kernel
theorem dX9_borrowByDraws_42 : decode cX9_borrowByDraws 42 = .ok (.aload_n 0, 1) := by decide +kernel
theorem dX9_borrowByDraws_43 : decode cX9_borrowByDraws 43 = .ok (.getfield 19, 3) := by decide +kernel
theorem dX9_borrowByDraws_46 : decode cX9_borrowByDraws 46 = .ok (.iload_n 1, 1) := by decide +kernel
theorem dX9_borrowByDraws_47 : decode cX9_borrowByDraws 47 = .ok (.iload_n 2, 1) := by decide +kernel
theorem dX9_borrowByDraws_48 : decode cX9_borrowByDraws 48 = .ok (.invokevirtual 192, 3) := by decide +kernel
theorem dX9_borrowByDraws_51 : decode cX9_borrowByDraws 51 = .ok (.ifCond .eq 26, 3) := by decide +kernel
theorem dX9_borrowByDraws_54 : decode cX9_borrowByDraws 54 = .ok (.aload_n 0, 1) := by decide +kernel
theorem dX9_borrowByDraws_55 : decode cX9_borrowByDraws 55 = .ok (.getfield 28, 3) := by decide +kernel
theorem dX9_borrowByDraws_58 : decode cX9_borrowByDraws 58 = .ok (.iload_n 1, 1) := by decide +kernel
theorem dX9_borrowByDraws_59 : decode cX9_borrowByDraws 59 = .ok (.iload_n 2, 1) := by decide +kernel
theorem dX9_borrowByDraws_60 : decode cX9_borrowByDraws 60 = .ok (.iload_n 3, 1) := by decide +kernel
theorem dX9_borrowByDraws_61 : decode cX9_borrowByDraws 61 = .ok (.invokevirtual 202, 3) := by decide +kernel
theorem dX9_borrowByDraws_64 : decode cX9_borrowByDraws 64 = .ok (.ifCond .eq 13, 3) := by decide +kernel
theorem dX9_borrowByDraws_67 : decode cX9_borrowByDraws 67 = .ok (.aload_n 0, 1) := by decide +kernel
theorem dX9_borrowByDraws_68 : decode cX9_borrowByDraws 68 = .ok (.getfield 28, 3) := by decide +kernel
theorem dX9_borrowByDraws_71 : decode cX9_borrowByDraws 71 = .ok (.iload_n 1, 1) := by decide +kernel
theorem dX9_borrowByDraws_72 : decode cX9_borrowByDraws 72 = .ok (.iload_n 2, 1) := by decide +kernel
theorem dX9_borrowByDraws_73 : decode cX9_borrowByDraws 73 = .ok (.iload_n 3, 1) := by decide +kernel
theorem dX9_borrowByDraws_74 : decode cX9_borrowByDraws 74 = .ok (.invokevirtual 210, 3) := by decide +kernel
theorem dX9_borrowByDraws_77 : decode cX9_borrowByDraws 77 = .ok (.return_, 1) := by decide +kernel
