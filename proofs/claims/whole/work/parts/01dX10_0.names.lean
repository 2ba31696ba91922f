theorem dX10_init_0 : decode cX10_init 0 = .ok (.aload_n 0, 1) := by decide +kernel
theorem dX10_init_1 : decode cX10_init 1 = .ok (.invokespecial 1, 3) := by decide +kernel
theorem dX10_init_4 : decode cX10_init 4 = .ok (.aload_n 0, 1) := by decide +kernel
theorem dX10_init_5 : decode cX10_init 5 = .ok (.bipush 54, 2) := by decide +kernel
theorem dX10_init_7 : decode cX10_init 7 = .ok (.newarray .int, 2) := by decide +kernel
theorem dX10_init_9 : decode cX10_init 9 = .ok (.putfield 7, 3) := by decide +kernel
theorem dX10_init_12 : decode cX10_init 12 = .ok (.aload_n 0, 1) := by decide +kernel
theorem dX10_init_13 : decode cX10_init 13 = .ok (.bipush 54, 2) := by decide +kernel
theorem dX10_init_15 : decode cX10_init 15 = .ok (.newarray .int, 2) := by decide +kernel
theorem dX10_init_17 : decode cX10_init 17 = .ok (.putfield 13, 3) := by decide +kernel
theorem dX10_init_20 : decode cX10_init 20 = .ok (.aload_n 0, 1) := by decide +kernel
theorem dX10_init_21 : decode cX10_init 21 = .ok (.bipush 54, 2) := by decide +kernel
theorem dX10_init_23 : decode cX10_init 23 = .ok (.newarray .int, 2) := by decide +kernel
theorem dX10_init_25 : decode cX10_init 25 = .ok (.putfield 16, 3) := by decide +kernel
theorem dX10_init_28 : decode cX10_init 28 = .ok (.aload_n 0, 1) := by decide +kernel
theorem dX10_init_29 : decode cX10_init 29 = .ok (.bipush 54, 2) := by decide +kernel
theorem dX10_init_31 : decode cX10_init 31 = .ok (.newarray .int, 2) := by decide +kernel
theorem dX10_init_33 : decode cX10_init 33 = .ok (.putfield 19, 3) := by decide +kernel
theorem dX10_init_36 : decode cX10_init 36 = .ok (.aload_n 0, 1) := by decide +kernel
theorem dX10_init_37 : decode cX10_init 37 = .ok (.sipush 1620, 3) := by decide +kernel
theorem dX10_init_40 : decode cX10_init 40 = .ok (.newarray .int, 2) := by decide +kernel
theorem dX10_init_42 : decode cX10_init 42 = .ok (.putfield 22, 3) := by decide +kernel
theorem dX10_init_45 : decode cX10_init 45 = .ok (.aload_n 0, 1) := by decide +kernel
theorem dX10_init_46 : decode cX10_init 46 = .ok (.bipush 110, 2) := by decide +kernel
theorem dX10_init_48 : decode cX10_init 48 = .ok (.newarray .int, 2) := by decide +kernel
theorem dX10_init_50 : decode cX10_init 50 = .ok (.putfield 25, 3) := by decide +kernel
theorem dX10_init_53 : decode cX10_init 53 = .ok (.aload_n 0, 1) := by decide +kernel
theorem dX10_init_54 : decode cX10_init 54 = .ok (.iconst 2, 1) := by decide +kernel
theorem dX10_init_55 : decode cX10_init 55 = .ok (.newarray .boolean, 2) := by decide +kernel
theorem dX10_init_57 : decode cX10_init 57 = .ok (.putfield 28, 3) := by decide +kernel
theorem dX10_init_60 : decode cX10_init 60 = .ok (.aload_n 0, 1) := by decide +kernel
theorem dX10_init_61 : decode cX10_init 61 = .ok (.sipush 240, 3) := by decide +kernel
theorem dX10_init_64 : decode cX10_init 64 = .ok (.newarray .int, 2) := by decide +kernel
theorem dX10_init_66 : decode cX10_init 66 = .ok (.putfield 32, 3) := by decide +kernel
theorem dX10_init_69 : decode cX10_init 69 = .ok (.aload_n 0, 1) := by decide +kernel
theorem dX10_init_70 : decode cX10_init 70 = .ok (.iconst (-1), 1) := by decide +kernel
theorem dX10_init_71 : decode cX10_init 71 = .ok (.putfield 35, 3) := by decide +kernel
theorem dX10_init_74 : decode cX10_init 74 = .ok (.aload_n 0, 1) := by decide +kernel
theorem dX10_init_75 : decode cX10_init 75 = .ok (.bipush 24, 2) := by decide +kernel
theorem dX10_init_77 : decode cX10_init 77 = .ok (.newarray .int, 2) := by decide +kernel
theorem dX10_init_79 : decode cX10_init 79 = .ok (.putfield 39, 3) := by decide +kernel
theorem dX10_init_82 : decode cX10_init 82 = .ok (.aload_n 0, 1) := by decide +kernel
theorem dX10_init_83 : decode cX10_init 83 = .ok (.bipush 40, 2) := by decide +kernel
theorem dX10_init_85 : decode cX10_init 85 = .ok (.newarray .int, 2) := by decide +kernel
theorem dX10_init_87 : decode cX10_init 87 = .ok (.putfield 42, 3) := by decide +kernel
theorem dX10_init_90 : decode cX10_init 90 = .ok (.aload_n 0, 1) := by decide +kernel
theorem dX10_init_91 : decode cX10_init 91 = .ok (.sipush 1000, 3) := by decide +kernel
theorem dX10_init_94 : decode cX10_init 94 = .ok (.newarray .int, 2) := by decide +kernel
theorem dX10_init_96 : decode cX10_init 96 = .ok (.putfield 45, 3) := by decide +kernel
theorem dX10_init_99 : decode cX10_init 99 = .ok (.aload_n 0, 1) := by decide +kernel
theorem dX10_init_100 : decode cX10_init 100 = .ok (.sipush 1000, 3) := by decide +kernel
theorem dX10_init_103 : decode cX10_init 103 = .ok (.newarray .int, 2) := by decide +kernel
theorem dX10_init_105 : decode cX10_init 105 = .ok (.putfield 48, 3) := by decide +kernel
theorem dX10_init_108 : decode cX10_init 108 = .ok (.aload_n 0, 1) := by decide +kernel
theorem dX10_init_109 : decode cX10_init 109 = .ok (.bipush 8, 2) := by decide +kernel
theorem dX10_init_111 : decode cX10_init 111 = .ok (.newarray .int, 2) := by decide +kernel
theorem dX10_init_113 : decode cX10_init 113 = .ok (.putfield 51, 3) := by decide +kernel
theorem dX10_init_116 : decode cX10_init 116 = .ok (.aload_n 0, 1) := by decide +kernel
theorem dX10_init_117 : decode cX10_init 117 = .ok (.invokevirtual 54, 3) := by decide +kernel
theorem dX10_init_120 : decode cX10_init 120 = .ok (.return_, 1) := by decide +kernel
theorem dX10_in_0 : decode cX10_in 0 = .ok (.lload_n 0, 1) := by decide +kernel
theorem dX10_in_1 : decode cX10_in 1 = .ok (.lload_n 2, 1) := by decide +kernel
theorem dX10_in_2 : decode cX10_in 2 = .ok (.lcmp, 1) := by decide +kernel
theorem dX10_in_3 : decode cX10_in 3 = .ok (.ifCond .lt 14, 3) := by decide +kernel
theorem dX10_in_6 : decode cX10_in 6 = .ok (.lload_n 0, 1) := by decide +kernel
theorem dX10_in_7 : decode cX10_in 7 = .ok (.lload 4, 2) := by decide +kernel
theorem dX10_in_9 : decode cX10_in 9 = .ok (.lcmp, 1) := by decide +kernel
theorem dX10_in_10 : decode cX10_in 10 = .ok (.ifCond .gt 7, 3) := by decide +kernel
theorem dX10_in_13 : decode cX10_in 13 = .ok (.iconst 1, 1) := by decide +kernel
theorem dX10_in_14 : decode cX10_in 14 = .ok (.goto 4, 3) := by decide +kernel
theorem dX10_in_17 : decode cX10_in 17 = .ok (.iconst 0, 1) := by decide +kernel
theorem dX10_in_18 : decode cX10_in 18 = .ok (.ireturn, 1) := by decide +kernel
theorem dX10_has_0 : decode cX10_has 0 = .ok (.iload_n 0, 1) := by decide +kernel
theorem dX10_has_1 : decode cX10_has 1 = .ok (.iload_n 1, 1) := by decide +kernel
theorem dX10_has_2 : decode cX10_has 2 = .ok (.ishr, 1) := by decide +kernel
theorem dX10_has_3 : decode cX10_has 3 = .ok (.iconst 1, 1) := by decide +kernel
theorem dX10_has_4 : decode cX10_has 4 = .ok (.iand, 1) := by decide +kernel
theorem dX10_has_5 : decode cX10_has 5 = .ok (.iconst 1, 1) := by decide +kernel
theorem dX10_has_6 : decode cX10_has 6 = .ok (.if_icmp .ne 7, 3) := by decide +kernel
theorem dX10_has_9 : decode cX10_has 9 = .ok (.iconst 1, 1) := by decide +kernel
theorem dX10_has_10 : decode cX10_has 10 = .ok (.goto 4, 3) := by decide +kernel
theorem dX10_has_13 : decode cX10_has 13 = .ok (.iconst 0, 1) := by decide +kernel
theorem dX10_has_14 : decode cX10_has 14 = .ok (.ireturn, 1) := by decide +kernel
theorem dX10_bits_0 : decode cX10_bits 0 = .ok (.iconst 0, 1) := by decide +kernel
theorem dX10_bits_1 : decode cX10_bits 1 = .ok (.istore_n 1, 1) := by decide +kernel
theorem dX10_bits_2 : decode cX10_bits 2 = .ok (.iload_n 0, 1) := by decide +kernel
theorem dX10_bits_3 : decode cX10_bits 3 = .ok (.istore_n 2, 1) := by decide +kernel
theorem dX10_bits_4 : decode cX10_bits 4 = .ok (.iload_n 2, 1) := by decide +kernel
theorem dX10_bits_5 : decode cX10_bits 5 = .ok (.ifCond .eq 15, 3) := by decide +kernel
theorem dX10_bits_8 : decode cX10_bits 8 = .ok (.iinc 1 1, 3) := by decide +kernel
theorem dX10_bits_11 : decode cX10_bits 11 = .ok (.iload_n 2, 1) := by decide +kernel
theorem dX10_bits_12 : decode cX10_bits 12 = .ok (.iload_n 2, 1) := by decide +kernel
theorem dX10_bits_13 : decode cX10_bits 13 = .ok (.iconst 1, 1) := by decide +kernel
theorem dX10_bits_14 : decode cX10_bits 14 = .ok (.isub, 1) := by decide +kernel
theorem dX10_bits_15 : decode cX10_bits 15 = .ok (.iand, 1) := by decide +kernel
theorem dX10_bits_16 : decode cX10_bits 16 = .ok (.istore_n 2, 1) := by decide +kernel
theorem dX10_bits_17 : decode cX10_bits 17 = .ok (.goto (-13), 3) := by decide +kernel
theorem dX10_bits_20 : decode cX10_bits 20 = .ok (.iload_n 1, 1) := by decide +kernel
theorem dX10_bits_21 : decode cX10_bits 21 = .ok (.ireturn, 1) := by decide +kernel
theorem dX10_lesser_0 : decode cX10_lesser 0 = .ok (.iload_n 0, 1) := by decide +kernel
theorem dX10_lesser_1 : decode cX10_lesser 1 = .ok (.iload_n 1, 1) := by decide +kernel
theorem dX10_lesser_2 : decode cX10_lesser 2 = .ok (.if_icmp .ge 7, 3) := by decide +kernel
theorem dX10_lesser_5 : decode cX10_lesser 5 = .ok (.iload_n 0, 1) := by decide +kernel
theorem dX10_lesser_6 : decode cX10_lesser 6 = .ok (.goto 4, 3) := by decide +kernel
theorem dX10_lesser_9 : decode cX10_lesser 9 = .ok (.iload_n 1, 1) := by decide +kernel
theorem dX10_lesser_10 : decode cX10_lesser 10 = .ok (.ireturn, 1) := by decide +kernel
theorem dX10_copies_0 : decode cX10_copies 0 = .ok (.iconst 0, 1) := by decide +kernel
theorem dX10_copies_1 : decode cX10_copies 1 = .ok (.istore 5, 2) := by decide +kernel
theorem dX10_copies_3 : decode cX10_copies 3 = .ok (.iload 5, 2) := by decide +kernel
theorem dX10_copies_5 : decode cX10_copies 5 = .ok (.iload 4, 2) := by decide +kernel
theorem dX10_copies_7 : decode cX10_copies 7 = .ok (.if_icmp .ge 21, 3) := by decide +kernel
theorem dX10_copies_10 : decode cX10_copies 10 = .ok (.aload_n 2, 1) := by decide +kernel
theorem dX10_copies_11 : decode cX10_copies 11 = .ok (.iload_n 3, 1) := by decide +kernel
theorem dX10_copies_12 : decode cX10_copies 12 = .ok (.iload 5, 2) := by decide +kernel
theorem dX10_copies_14 : decode cX10_copies 14 = .ok (.iadd, 1) := by decide +kernel
theorem dX10_copies_15 : decode cX10_copies 15 = .ok (.aload_n 0, 1) := by decide +kernel
theorem dX10_copies_16 : decode cX10_copies 16 = .ok (.iload_n 1, 1) := by decide +kernel
theorem dX10_copies_17 : decode cX10_copies 17 = .ok (.iload 5, 2) := by decide +kernel
theorem dX10_copies_19 : decode cX10_copies 19 = .ok (.iadd, 1) := by decide +kernel
theorem dX10_copies_20 : decode cX10_copies 20 = .ok (.iaload, 1) := by decide +kernel
theorem dX10_copies_21 : decode cX10_copies 21 = .ok (.iastore, 1) := by decide +kernel
theorem dX10_copies_22 : decode cX10_copies 22 = .ok (.iinc 5 1, 3) := by decide +kernel
theorem dX10_copies_25 : decode cX10_copies 25 = .ok (.goto (-22), 3) := by decide +kernel
theorem dX10_copies_28 : decode cX10_copies 28 = .ok (.return_, 1) := by decide +kernel
theorem dX10_begins_0 : decode cX10_begins 0 = .ok (.aload_n 0, 1) := by decide +kernel
theorem dX10_begins_1 : decode cX10_begins 1 = .ok (.getfield 7, 3) := by decide +kernel
theorem dX10_begins_4 : decode cX10_begins 4 = .ok (.bipush 22, 2) := by decide +kernel
theorem dX10_begins_6 : decode cX10_begins 6 = .ok (.aload_n 0, 1) := by decide +kernel
theorem dX10_begins_7 : decode cX10_begins 7 = .ok (.getfield 16, 3) := by decide +kernel
theorem dX10_begins_10 : decode cX10_begins 10 = .ok (.iconst 0, 1) := by decide +kernel
theorem dX10_begins_11 : decode cX10_begins 11 = .ok (.bipush 32, 2) := by decide +kernel
theorem dX10_begins_13 : decode cX10_begins 13 = .ok (.invokestatic 57, 3) := by decide +kernel
theorem dX10_begins_16 : decode cX10_begins 16 = .ok (.aload_n 0, 1) := by decide +kernel
theorem dX10_begins_17 : decode cX10_begins 17 = .ok (.getfield 7, 3) := by decide +kernel
theorem dX10_begins_20 : decode cX10_begins 20 = .ok (.iconst 5, 1) := by decide +kernel
theorem dX10_begins_21 : decode cX10_begins 21 = .ok (.aload_n 0, 1) := by decide +kernel
theorem dX10_begins_22 : decode cX10_begins 22 = .ok (.getfield 16, 3) := by decide +kernel
theorem dX10_begins_25 : decode cX10_begins 25 = .ok (.bipush 32, 2) := by decide +kernel
theorem dX10_begins_27 : decode cX10_begins 27 = .ok (.iconst 4, 1) := by decide +kernel
theorem dX10_begins_28 : decode cX10_begins 28 = .ok (.invokestatic 57, 3) := by decide +kernel
theorem dX10_begins_31 : decode cX10_begins 31 = .ok (.bipush 36, 2) := by decide +kernel
theorem dX10_begins_33 : decode cX10_begins 33 = .ok (.istore_n 1, 1) := by decide +kernel
theorem dX10_begins_34 : decode cX10_begins 34 = .ok (.iload_n 1, 1) := by decide +kernel
theorem dX10_begins_35 : decode cX10_begins 35 = .ok (.bipush 54, 2) := by decide +kernel
theorem dX10_begins_37 : decode cX10_begins 37 = .ok (.if_icmp .ge 34, 3) := by decide +kernel
theorem dX10_begins_40 : decode cX10_begins 40 = .ok (.aload_n 0, 1) := by decide +kernel
theorem dX10_begins_41 : decode cX10_begins 41 = .ok (.getfield 16, 3) := by decide +kernel
theorem dX10_begins_44 : decode cX10_begins 44 = .ok (.iload_n 1, 1) := by decide +kernel
theorem dX10_begins_45 : decode cX10_begins 45 = .ok (.iload_n 1, 1) := by decide +kernel
theorem dX10_begins_46 : decode cX10_begins 46 = .ok (.i2l, 1) := by decide +kernel
theorem dX10_begins_47 : decode cX10_begins 47 = .ok (.ldc2_w 61, 3) := by decide +kernel
theorem dX10_begins_50 : decode cX10_begins 50 = .ok (.ldc2_w 63, 3) := by decide +kernel
theorem dX10_begins_53 : decode cX10_begins 53 = .ok (.invokestatic 65, 3) := by decide +kernel
theorem dX10_begins_56 : decode cX10_begins 56 = .ok (.ifCond .eq 7, 3) := by decide +kernel
theorem dX10_begins_59 : decode cX10_begins 59 = .ok (.iconst (-1), 1) := by decide +kernel
theorem dX10_begins_60 : decode cX10_begins 60 = .ok (.goto 4, 3) := by decide +kernel
theorem dX10_begins_63 : decode cX10_begins 63 = .ok (.iconst 0, 1) := by decide +kernel
theorem dX10_begins_64 : decode cX10_begins 64 = .ok (.iastore, 1) := by decide +kernel
theorem dX10_begins_65 : decode cX10_begins 65 = .ok (.iinc 1 1, 3) := by decide +kernel
theorem dX10_begins_68 : decode cX10_begins 68 = .ok (.goto (-34), 3) := by decide +kernel
theorem dX10_begins_71 : decode cX10_begins 71 = .ok (.aload_n 0, 1) := by decide +kernel
theorem dX10_begins_72 : decode cX10_begins 72 = .ok (.iconst 0, 1) := by decide +kernel
theorem dX10_begins_73 : decode cX10_begins 73 = .ok (.putfield 69, 3) := by decide +kernel
theorem dX10_begins_76 : decode cX10_begins 76 = .ok (.aload_n 0, 1) := by decide +kernel
theorem dX10_begins_77 : decode cX10_begins 77 = .ok (.iconst 0, 1) := by decide +kernel
theorem dX10_begins_78 : decode cX10_begins 78 = .ok (.putfield 72, 3) := by decide +kernel
theorem dX10_begins_81 : decode cX10_begins 81 = .ok (.aload_n 0, 1) := by decide +kernel
theorem dX10_begins_82 : decode cX10_begins 82 = .ok (.iconst 0, 1) := by decide +kernel
theorem dX10_begins_83 : decode cX10_begins 83 = .ok (.putfield 75, 3) := by decide +kernel
theorem dX10_begins_86 : decode cX10_begins 86 = .ok (.aload_n 0, 1) := by decide +kernel
theorem dX10_begins_87 : decode cX10_begins 87 = .ok (.getfield 28, 3) := by decide +kernel
theorem dX10_begins_90 : decode cX10_begins 90 = .ok (.iconst 0, 1) := by decide +kernel
theorem dX10_begins_91 : decode cX10_begins 91 = .ok (.iconst 0, 1) := by decide +kernel
theorem dX10_begins_92 : decode cX10_begins 92 = .ok (.bastore, 1) := by decide +kernel
theorem dX10_begins_93 : decode cX10_begins 93 = .ok (.aload_n 0, 1) := by decide +kernel
theorem dX10_begins_94 : decode cX10_begins 94 = .ok (.getfield 28, 3) := by decide +kernel
theorem dX10_begins_97 : decode cX10_begins 97 = .ok (.iconst 1, 1) := by decide +kernel
theorem dX10_begins_98 : decode cX10_begins 98 = .ok (.iconst 0, 1) := by decide +kernel
theorem dX10_begins_99 : decode cX10_begins 99 = .ok (.bastore, 1) := by decide +kernel
theorem dX10_begins_100 : decode cX10_begins 100 = .ok (.return_, 1) := by decide +kernel
theorem dX10_feed_0 : decode cX10_feed 0 = .ok (.iload_n 1, 1) := by decide +kernel
theorem dX10_feed_1 : decode cX10_feed 1 = .ok (.i2l, 1) := by decide +kernel
theorem dX10_feed_2 : decode cX10_feed 2 = .ok (.lconst 0, 1) := by decide +kernel
theorem dX10_feed_3 : decode cX10_feed 3 = .ok (.ldc2_w 78, 3) := by decide +kernel
theorem dX10_feed_6 : decode cX10_feed 6 = .ok (.invokestatic 65, 3) := by decide +kernel
theorem dX10_feed_9 : decode cX10_feed 9 = .ok (.ifCond .ne 6, 3) := by decide +kernel
theorem dX10_feed_12 : decode cX10_feed 12 = .ok (.ldc 80, 2) := by decide +kernel
theorem dX10_feed_14 : decode cX10_feed 14 = .ok (.ireturn, 1) := by decide +kernel
theorem dX10_feed_15 : decode cX10_feed 15 = .ok (.aload_n 0, 1) := by decide +kernel
theorem dX10_feed_16 : decode cX10_feed 16 = .ok (.getfield 81, 3) := by decide +kernel
theorem dX10_feed_19 : decode cX10_feed 19 = .ok (.sipush 240, 3) := by decide +kernel
theorem dX10_feed_22 : decode cX10_feed 22 = .ok (.if_icmp .ne 6, 3) := by decide +kernel
theorem dX10_feed_25 : decode cX10_feed 25 = .ok (.ldc 84, 2) := by decide +kernel
theorem dX10_feed_27 : decode cX10_feed 27 = .ok (.ireturn, 1) := by decide +kernel
theorem dX10_feed_28 : decode cX10_feed 28 = .ok (.aload_n 0, 1) := by decide +kernel
theorem dX10_feed_29 : decode cX10_feed 29 = .ok (.getfield 32, 3) := by decide +kernel
theorem dX10_feed_32 : decode cX10_feed 32 = .ok (.aload_n 0, 1) := by decide +kernel
theorem dX10_feed_33 : decode cX10_feed 33 = .ok (.getfield 81, 3) := by decide +kernel
theorem dX10_feed_36 : decode cX10_feed 36 = .ok (.iload_n 1, 1) := by decide +kernel
theorem dX10_feed_37 : decode cX10_feed 37 = .ok (.iastore, 1) := by decide +kernel
theorem dX10_feed_38 : decode cX10_feed 38 = .ok (.aload_n 0, 1) := by decide +kernel
theorem dX10_feed_39 : decode cX10_feed 39 = .ok (.dup, 1) := by decide +kernel
theorem dX10_feed_40 : decode cX10_feed 40 = .ok (.getfield 81, 3) := by decide +kernel
theorem dX10_feed_43 : decode cX10_feed 43 = .ok (.iconst 1, 1) := by decide +kernel
theorem dX10_feed_44 : decode cX10_feed 44 = .ok (.iadd, 1) := by decide +kernel
theorem dX10_feed_45 : decode cX10_feed 45 = .ok (.putfield 81, 3) := by decide +kernel
theorem dX10_feed_48 : decode cX10_feed 48 = .ok (.aload_n 0, 1) := by decide +kernel
theorem dX10_feed_49 : decode cX10_feed 49 = .ok (.getfield 81, 3) := by decide +kernel
theorem dX10_feed_52 : decode cX10_feed 52 = .ok (.ireturn, 1) := by decide +kernel
theorem dX10_here_0 : decode cX10_here 0 = .ok (.aload_n 0, 1) := by decide +kernel
theorem dX10_here_1 : decode cX10_here 1 = .ok (.getfield 85, 3) := by decide +kernel
theorem dX10_here_4 : decode cX10_here 4 = .ok (.aload_n 0, 1) := by decide +kernel
theorem dX10_here_5 : decode cX10_here 5 = .ok (.getfield 81, 3) := by decide +kernel
theorem dX10_here_8 : decode cX10_here 8 = .ok (.if_icmp .ge 15, 3) := by decide +kernel
theorem dX10_here_11 : decode cX10_here 11 = .ok (.aload_n 0, 1) := by decide +kernel
theorem dX10_here_12 : decode cX10_here 12 = .ok (.getfield 32, 3) := by decide +kernel
theorem dX10_here_15 : decode cX10_here 15 = .ok (.aload_n 0, 1) := by decide +kernel
theorem dX10_here_16 : decode cX10_here 16 = .ok (.getfield 85, 3) := by decide +kernel
theorem dX10_here_19 : decode cX10_here 19 = .ok (.iaload, 1) := by decide +kernel
theorem dX10_here_20 : decode cX10_here 20 = .ok (.goto 4, 3) := by decide +kernel
theorem dX10_here_23 : decode cX10_here 23 = .ok (.iconst (-1), 1) := by decide +kernel
theorem dX10_here_24 : decode cX10_here 24 = .ok (.ireturn, 1) := by decide +kernel
theorem dX10_step_0 : decode cX10_step 0 = .ok (.aload_n 0, 1) := by decide +kernel
theorem dX10_step_1 : decode cX10_step 1 = .ok (.invokevirtual 88, 3) := by decide +kernel
theorem dX10_step_4 : decode cX10_step 4 = .ok (.bipush 32, 2) := by decide +kernel
theorem dX10_step_6 : decode cX10_step 6 = .ok (.if_icmp .ne 16, 3) := by decide +kernel
theorem dX10_step_9 : decode cX10_step 9 = .ok (.aload_n 0, 1) := by decide +kernel
theorem dX10_step_10 : decode cX10_step 10 = .ok (.dup, 1) := by decide +kernel
theorem dX10_step_11 : decode cX10_step 11 = .ok (.getfield 85, 3) := by decide +kernel
theorem dX10_step_14 : decode cX10_step 14 = .ok (.iconst 1, 1) := by decide +kernel
theorem dX10_step_15 : decode cX10_step 15 = .ok (.iadd, 1) := by decide +kernel
theorem dX10_step_16 : decode cX10_step 16 = .ok (.putfield 85, 3) := by decide +kernel
theorem dX10_step_19 : decode cX10_step 19 = .ok (.goto (-19), 3) := by decide +kernel
theorem dX10_step_22 : decode cX10_step 22 = .ok (.aload_n 0, 1) := by decide +kernel
theorem dX10_step_23 : decode cX10_step 23 = .ok (.aload_n 0, 1) := by decide +kernel
theorem dX10_step_24 : decode cX10_step 24 = .ok (.getfield 85, 3) := by decide +kernel
theorem dX10_step_27 : decode cX10_step 27 = .ok (.putfield 92, 3) := by decide +kernel
theorem dX10_step_30 : decode cX10_step 30 = .ok (.aload_n 0, 1) := by decide +kernel
theorem dX10_step_31 : decode cX10_step 31 = .ok (.aload_n 0, 1) := by decide +kernel
theorem dX10_step_32 : decode cX10_step 32 = .ok (.invokevirtual 88, 3) := by decide +kernel
theorem dX10_step_35 : decode cX10_step 35 = .ok (.putfield 95, 3) := by decide +kernel
theorem dX10_step_38 : decode cX10_step 38 = .ok (.aload_n 0, 1) := by decide +kernel
theorem dX10_step_39 : decode cX10_step 39 = .ok (.iconst 0, 1) := by decide +kernel
theorem dX10_step_40 : decode cX10_step 40 = .ok (.putfield 98, 3) := by decide +kernel
theorem dX10_step_43 : decode cX10_step 43 = .ok (.aload_n 0, 1) := by decide +kernel
theorem dX10_step_44 : decode cX10_step 44 = .ok (.iconst 0, 1) := by decide +kernel
theorem dX10_step_45 : decode cX10_step 45 = .ok (.putfield 101, 3) := by decide +kernel
theorem dX10_step_48 : decode cX10_step 48 = .ok (.aload_n 0, 1) := by decide +kernel
theorem dX10_step_49 : decode cX10_step 49 = .ok (.getfield 95, 3) := by decide +kernel
theorem dX10_step_52 : decode cX10_step 52 = .ok (.i2l, 1) := by decide +kernel
theorem dX10_step_53 : decode cX10_step 53 = .ok (.ldc2_w 104, 3) := by decide +kernel
theorem dX10_step_56 : decode cX10_step 56 = .ok (.ldc2_w 106, 3) := by decide +kernel
theorem dX10_step_59 : decode cX10_step 59 = .ok (.invokestatic 65, 3) := by decide +kernel
theorem dX10_step_62 : decode cX10_step 62 = .ok (.ifCond .ne 25, 3) := by decide +kernel
theorem dX10_step_65 : decode cX10_step 65 = .ok (.aload_n 0, 1) := by decide +kernel
theorem dX10_step_66 : decode cX10_step 66 = .ok (.dup, 1) := by decide +kernel
theorem dX10_step_67 : decode cX10_step 67 = .ok (.getfield 85, 3) := by decide +kernel
theorem dX10_step_70 : decode cX10_step 70 = .ok (.aload_n 0, 1) := by decide +kernel
theorem dX10_step_71 : decode cX10_step 71 = .ok (.getfield 95, 3) := by decide +kernel
theorem dX10_step_74 : decode cX10_step 74 = .ok (.ifCond .ge 7, 3) := by decide +kernel
theorem dX10_step_77 : decode cX10_step 77 = .ok (.iconst 0, 1) := by decide +kernel
theorem dX10_step_78 : decode cX10_step 78 = .ok (.goto 4, 3) := by decide +kernel
theorem dX10_step_81 : decode cX10_step 81 = .ok (.iconst 1, 1) := by decide +kernel
theorem dX10_step_82 : decode cX10_step 82 = .ok (.iadd, 1) := by decide +kernel
theorem dX10_step_83 : decode cX10_step 83 = .ok (.putfield 85, 3) := by decide +kernel
theorem dX10_step_86 : decode cX10_step 86 = .ok (.return_, 1) := by decide +kernel
theorem dX10_step_87 : decode cX10_step 87 = .ok (.aload_n 0, 1) := by decide +kernel
theorem dX10_step_88 : decode cX10_step 88 = .ok (.bipush 48, 2) := by decide +kernel
theorem dX10_step_90 : decode cX10_step 90 = .ok (.putfield 95, 3) := by decide +kernel
theorem dX10_step_93 : decode cX10_step 93 = .ok (.aload_n 0, 1) := by decide +kernel
theorem dX10_step_94 : decode cX10_step 94 = .ok (.invokevirtual 88, 3) := by decide +kernel
theorem dX10_step_97 : decode cX10_step 97 = .ok (.i2l, 1) := by decide +kernel
theorem dX10_step_98 : decode cX10_step 98 = .ok (.ldc2_w 104, 3) := by decide +kernel
theorem dX10_step_101 : decode cX10_step 101 = .ok (.ldc2_w 106, 3) := by decide +kernel
theorem dX10_step_104 : decode cX10_step 104 = .ok (.invokestatic 65, 3) := by decide +kernel
theorem dX10_step_107 : decode cX10_step 107 = .ok (.ifCond .eq 60, 3) := by decide +kernel
theorem dX10_step_110 : decode cX10_step 110 = .ok (.aload_n 0, 1) := by decide +kernel
theorem dX10_step_111 : decode cX10_step 111 = .ok (.aload_n 0, 1) := by decide +kernel
theorem dX10_step_112 : decode cX10_step 112 = .ok (.getfield 98, 3) := by decide +kernel
theorem dX10_step_115 : decode cX10_step 115 = .ok (.iconst 3, 1) := by decide +kernel
theorem dX10_step_116 : decode cX10_step 116 = .ok (.if_icmp .ge 21, 3) := by decide +kernel
theorem dX10_step_119 : decode cX10_step 119 = .ok (.bipush 10, 2) := by decide +kernel
theorem dX10_step_121 : decode cX10_step 121 = .ok (.aload_n 0, 1) := by decide +kernel
theorem dX10_step_122 : decode cX10_step 122 = .ok (.getfield 101, 3) := by decide +kernel
theorem dX10_step_125 : decode cX10_step 125 = .ok (.imul, 1) := by decide +kernel
theorem dX10_step_126 : decode cX10_step 126 = .ok (.aload_n 0, 1) := by decide +kernel
theorem dX10_step_127 : decode cX10_step 127 = .ok (.invokevirtual 88, 3) := by decide +kernel
theorem dX10_step_130 : decode cX10_step 130 = .ok (.iadd, 1) := by decide +kernel
theorem dX10_step_131 : decode cX10_step 131 = .ok (.bipush 48, 2) := by decide +kernel
theorem dX10_step_133 : decode cX10_step 133 = .ok (.isub, 1) := by decide +kernel
theorem dX10_step_134 : decode cX10_step 134 = .ok (.goto 7, 3) := by decide +kernel
theorem dX10_step_137 : decode cX10_step 137 = .ok (.aload_n 0, 1) := by decide +kernel
theorem dX10_step_138 : decode cX10_step 138 = .ok (.getfield 101, 3) := by decide +kernel
theorem dX10_step_141 : decode cX10_step 141 = .ok (.putfield 101, 3) := by decide +kernel
theorem dX10_step_144 : decode cX10_step 144 = .ok (.aload_n 0, 1) := by decide +kernel
theorem dX10_step_145 : decode cX10_step 145 = .ok (.dup, 1) := by decide +kernel
theorem dX10_step_146 : decode cX10_step 146 = .ok (.getfield 98, 3) := by decide +kernel
theorem dX10_step_149 : decode cX10_step 149 = .ok (.iconst 1, 1) := by decide +kernel
theorem dX10_step_150 : decode cX10_step 150 = .ok (.iadd, 1) := by decide +kernel
theorem dX10_step_151 : decode cX10_step 151 = .ok (.putfield 98, 3) := by decide +kernel
theorem dX10_step_154 : decode cX10_step 154 = .ok (.aload_n 0, 1) := by decide +kernel
theorem dX10_step_155 : decode cX10_step 155 = .ok (.dup, 1) := by decide +kernel
theorem dX10_step_156 : decode cX10_step 156 = .ok (.getfield 85, 3) := by decide +kernel
theorem dX10_step_159 : decode cX10_step 159 = .ok (.iconst 1, 1) := by decide +kernel
theorem dX10_step_160 : decode cX10_step 160 = .ok (.iadd, 1) := by decide +kernel
theorem dX10_step_161 : decode cX10_step 161 = .ok (.putfield 85, 3) := by decide +kernel
theorem dX10_step_164 : decode cX10_step 164 = .ok (.goto (-71), 3) := by decide +kernel
theorem dX10_step_167 : decode cX10_step 167 = .ok (.return_, 1) := by decide +kernel
theorem dX10_fails_0 : decode cX10_fails 0 = .ok (.aload_n 0, 1) := by decide +kernel
theorem dX10_fails_1 : decode cX10_fails 1 = .ok (.iload_n 1, 1) := by decide +kernel
theorem dX10_fails_2 : decode cX10_fails 2 = .ok (.putfield 108, 3) := by decide +kernel
theorem dX10_fails_5 : decode cX10_fails 5 = .ok (.iconst 0, 1) := by decide +kernel
theorem dX10_fails_6 : decode cX10_fails 6 = .ok (.ireturn, 1) := by decide +kernel
theorem dX10_number_0 : decode cX10_number 0 = .ok (.aload_n 0, 1) := by decide +kernel
theorem dX10_number_1 : decode cX10_number 1 = .ok (.invokevirtual 111, 3) := by decide +kernel
theorem dX10_number_4 : decode cX10_number 4 = .ok (.aload_n 0, 1) := by decide +kernel
theorem dX10_number_5 : decode cX10_number 5 = .ok (.getfield 95, 3) := by decide +kernel
theorem dX10_number_8 : decode cX10_number 8 = .ok (.bipush 48, 2) := by decide +kernel
theorem dX10_number_10 : decode cX10_number 10 = .ok (.if_icmp .eq 9, 3) := by decide +kernel
theorem dX10_number_13 : decode cX10_number 13 = .ok (.aload_n 0, 1) := by decide +kernel
theorem dX10_number_14 : decode cX10_number 14 = .ok (.iconst 1, 1) := by decide +kernel
theorem dX10_number_15 : decode cX10_number 15 = .ok (.invokevirtual 114, 3) := by decide +kernel
theorem dX10_number_18 : decode cX10_number 18 = .ok (.ireturn, 1) := by decide +kernel
theorem dX10_number_19 : decode cX10_number 19 = .ok (.aload_n 0, 1) := by decide +kernel
theorem dX10_number_20 : decode cX10_number 20 = .ok (.getfield 98, 3) := by decide +kernel
theorem dX10_number_23 : decode cX10_number 23 = .ok (.iconst 3, 1) := by decide +kernel
theorem dX10_number_24 : decode cX10_number 24 = .ok (.if_icmp .gt 18, 3) := by decide +kernel
theorem dX10_number_27 : decode cX10_number 27 = .ok (.aload_n 0, 1) := by decide +kernel
theorem dX10_number_28 : decode cX10_number 28 = .ok (.getfield 101, 3) := by decide +kernel
theorem dX10_number_31 : decode cX10_number 31 = .ok (.i2l, 1) := by decide +kernel
theorem dX10_number_32 : decode cX10_number 32 = .ok (.iload_n 2, 1) := by decide +kernel
theorem dX10_number_33 : decode cX10_number 33 = .ok (.i2l, 1) := by decide +kernel
theorem dX10_number_34 : decode cX10_number 34 = .ok (.iload_n 3, 1) := by decide +kernel
theorem dX10_number_35 : decode cX10_number 35 = .ok (.i2l, 1) := by decide +kernel
theorem dX10_number_36 : decode cX10_number 36 = .ok (.invokestatic 65, 3) := by decide +kernel
theorem dX10_number_39 : decode cX10_number 39 = .ok (.ifCond .ne 9, 3) := by decide +kernel
theorem dX10_number_42 : decode cX10_number 42 = .ok (.aload_n 0, 1) := by decide +kernel
theorem dX10_number_43 : decode cX10_number 43 = .ok (.iconst 2, 1) := by decide +kernel
theorem dX10_number_44 : decode cX10_number 44 = .ok (.invokevirtual 114, 3) := by decide +kernel
theorem dX10_number_47 : decode cX10_number 47 = .ok (.ireturn, 1) := by decide +kernel
theorem dX10_number_48 : decode cX10_number 48 = .ok (.aload_n 0, 1) := by decide +kernel
theorem dX10_number_49 : decode cX10_number 49 = .ok (.getfield 13, 3) := by decide +kernel
theorem dX10_number_52 : decode cX10_number 52 = .ok (.iload_n 1, 1) := by decide +kernel
theorem dX10_number_53 : decode cX10_number 53 = .ok (.aload_n 0, 1) := by decide +kernel
theorem dX10_number_54 : decode cX10_number 54 = .ok (.getfield 101, 3) := by decide +kernel
theorem dX10_number_57 : decode cX10_number 57 = .ok (.iastore, 1) := by decide +kernel
theorem dX10_number_58 : decode cX10_number 58 = .ok (.iconst 1, 1) := by decide +kernel
theorem dX10_number_59 : decode cX10_number 59 = .ok (.ireturn, 1) := by decide +kernel
theorem dX10_ends_0 : decode cX10_ends 0 = .ok (.aload_n 0, 1) := by decide +kernel
theorem dX10_ends_1 : decode cX10_ends 1 = .ok (.invokevirtual 111, 3) := by decide +kernel
theorem dX10_ends_4 : decode cX10_ends 4 = .ok (.aload_n 0, 1) := by decide +kernel
theorem dX10_ends_5 : decode cX10_ends 5 = .ok (.getfield 95, 3) := by decide +kernel
theorem dX10_ends_8 : decode cX10_ends 8 = .ok (.bipush 59, 2) := by decide +kernel
theorem dX10_ends_10 : decode cX10_ends 10 = .ok (.if_icmp .eq 11, 3) := by decide +kernel
theorem dX10_ends_13 : decode cX10_ends 13 = .ok (.aload_n 0, 1) := by decide +kernel
theorem dX10_ends_14 : decode cX10_ends 14 = .ok (.iconst 1, 1) := by decide +kernel
theorem dX10_ends_15 : decode cX10_ends 15 = .ok (.invokevirtual 114, 3) := by decide +kernel
theorem dX10_ends_18 : decode cX10_ends 18 = .ok (.ifCond .eq 7, 3) := by decide +kernel
theorem dX10_ends_21 : decode cX10_ends 21 = .ok (.iconst 1, 1) := by decide +kernel
theorem dX10_ends_22 : decode cX10_ends 22 = .ok (.goto 4, 3) := by decide +kernel
theorem dX10_ends_25 : decode cX10_ends 25 = .ok (.iconst 0, 1) := by decide +kernel
theorem dX10_ends_26 : decode cX10_ends 26 = .ok (.ireturn, 1) := by decide +kernel
theorem dX10_readsInterest_0 : decode cX10_readsInterest 0 = .ok (.aload_n 0, 1) := by decide +kernel
theorem dX10_readsInterest_1 : decode cX10_readsInterest 1 = .ok (.getfield 13, 3) := by decide +kernel
theorem dX10_readsInterest_4 : decode cX10_readsInterest 4 = .ok (.iconst 0, 1) := by decide +kernel
theorem dX10_readsInterest_5 : decode cX10_readsInterest 5 = .ok (.iaload, 1) := by decide +kernel
theorem dX10_readsInterest_6 : decode cX10_readsInterest 6 = .ok (.iconst 1, 1) := by decide +kernel
theorem dX10_readsInterest_7 : decode cX10_readsInterest 7 = .ok (.if_icmp .ne 9, 3) := by decide +kernel
theorem dX10_readsInterest_10 : decode cX10_readsInterest 10 = .ok (.aload_n 0, 1) := by decide +kernel
theorem dX10_readsInterest_11 : decode cX10_readsInterest 11 = .ok (.iconst 3, 1) := by decide +kernel
theorem dX10_readsInterest_12 : decode cX10_readsInterest 12 = .ok (.invokevirtual 114, 3) := by decide +kernel
theorem dX10_readsInterest_15 : decode cX10_readsInterest 15 = .ok (.ireturn, 1) := by decide +kernel
theorem dX10_readsInterest_16 : decode cX10_readsInterest 16 = .ok (.aload_n 0, 1) := by decide +kernel
theorem dX10_readsInterest_17 : decode cX10_readsInterest 17 = .ok (.getfield 13, 3) := by decide +kernel
theorem dX10_readsInterest_20 : decode cX10_readsInterest 20 = .ok (.iconst 0, 1) := by decide +kernel
theorem dX10_readsInterest_21 : decode cX10_readsInterest 21 = .ok (.iconst 1, 1) := by decide +kernel
theorem dX10_readsInterest_22 : decode cX10_readsInterest 22 = .ok (.iastore, 1) := by decide +kernel
theorem dX10_readsInterest_23 : decode cX10_readsInterest 23 = .ok (.aload_n 0, 1) := by decide +kernel
theorem dX10_readsInterest_24 : decode cX10_readsInterest 24 = .ok (.iconst 1, 1) := by decide +kernel
theorem dX10_readsInterest_25 : decode cX10_readsInterest 25 = .ok (.iconst 0, 1) := by decide +kernel
theorem dX10_readsInterest_26 : decode cX10_readsInterest 26 = .ok (.bipush 30, 2) := by decide +kernel
theorem dX10_readsInterest_28 : decode cX10_readsInterest 28 = .ok (.invokevirtual 118, 3) := by decide +kernel
theorem dX10_readsInterest_31 : decode cX10_readsInterest 31 = .ok (.ifCond .eq 25, 3) := by decide +kernel
theorem dX10_readsInterest_34 : decode cX10_readsInterest 34 = .ok (.aload_n 0, 1) := by decide +kernel
theorem dX10_readsInterest_35 : decode cX10_readsInterest 35 = .ok (.iconst 2, 1) := by decide +kernel
theorem dX10_readsInterest_36 : decode cX10_readsInterest 36 = .ok (.iconst 0, 1) := by decide +kernel
theorem dX10_readsInterest_37 : decode cX10_readsInterest 37 = .ok (.bipush 100, 2) := by decide +kernel
theorem dX10_readsInterest_39 : decode cX10_readsInterest 39 = .ok (.invokevirtual 118, 3) := by decide +kernel
theorem dX10_readsInterest_42 : decode cX10_readsInterest 42 = .ok (.ifCond .eq 14, 3) := by decide +kernel
theorem dX10_readsInterest_45 : decode cX10_readsInterest 45 = .ok (.aload_n 0, 1) := by decide +kernel
theorem dX10_readsInterest_46 : decode cX10_readsInterest 46 = .ok (.invokevirtual 122, 3) := by decide +kernel
theorem dX10_readsInterest_49 : decode cX10_readsInterest 49 = .ok (.ifCond .eq 7, 3) := by decide +kernel
theorem dX10_readsInterest_52 : decode cX10_readsInterest 52 = .ok (.iconst 1, 1) := by decide +kernel
theorem dX10_readsInterest_53 : decode cX10_readsInterest 53 = .ok (.goto 4, 3) := by decide +kernel
theorem dX10_readsInterest_56 : decode cX10_readsInterest 56 = .ok (.iconst 0, 1) := by decide +kernel
theorem dX10_readsInterest_57 : decode cX10_readsInterest 57 = .ok (.ireturn, 1) := by decide +kernel
theorem dX10_readsCreditor_0 : decode cX10_readsCreditor 0 = .ok (.aload_n 0, 1) := by decide +kernel
theorem dX10_readsCreditor_1 : decode cX10_readsCreditor 1 = .ok (.getfield 13, 3) := by decide +kernel
theorem dX10_readsCreditor_4 : decode cX10_readsCreditor 4 = .ok (.iconst 3, 1) := by decide +kernel
theorem dX10_readsCreditor_5 : decode cX10_readsCreditor 5 = .ok (.iaload, 1) := by decide +kernel
theorem dX10_readsCreditor_6 : decode cX10_readsCreditor 6 = .ok (.istore_n 1, 1) := by decide +kernel
theorem dX10_readsCreditor_7 : decode cX10_readsCreditor 7 = .ok (.iload_n 1, 1) := by decide +kernel
theorem dX10_readsCreditor_8 : decode cX10_readsCreditor 8 = .ok (.iconst 4, 1) := by decide +kernel
theorem dX10_readsCreditor_9 : decode cX10_readsCreditor 9 = .ok (.if_icmp .eq 12, 3) := by decide +kernel
theorem dX10_readsCreditor_12 : decode cX10_readsCreditor 12 = .ok (.aload_n 0, 1) := by decide +kernel
theorem dX10_readsCreditor_13 : decode cX10_readsCreditor 13 = .ok (.getfield 13, 3) := by decide +kernel
theorem dX10_readsCreditor_16 : decode cX10_readsCreditor 16 = .ok (.iconst 4, 1) := by decide +kernel
theorem dX10_readsCreditor_17 : decode cX10_readsCreditor 17 = .ok (.iaload, 1) := by decide +kernel
theorem dX10_readsCreditor_18 : decode cX10_readsCreditor 18 = .ok (.ifCond .le 9, 3) := by decide +kernel
theorem dX10_readsCreditor_21 : decode cX10_readsCreditor 21 = .ok (.aload_n 0, 1) := by decide +kernel
theorem dX10_readsCreditor_22 : decode cX10_readsCreditor 22 = .ok (.iconst 3, 1) := by decide +kernel
theorem dX10_readsCreditor_23 : decode cX10_readsCreditor 23 = .ok (.invokevirtual 114, 3) := by decide +kernel
theorem dX10_readsCreditor_26 : decode cX10_readsCreditor 26 = .ok (.ireturn, 1) := by decide +kernel
theorem dX10_readsCreditor_27 : decode cX10_readsCreditor 27 = .ok (.aload_n 0, 1) := by decide +kernel
theorem dX10_readsCreditor_28 : decode cX10_readsCreditor 28 = .ok (.getfield 13, 3) := by decide +kernel
theorem dX10_readsCreditor_31 : decode cX10_readsCreditor 31 = .ok (.iconst 3, 1) := by decide +kernel
theorem dX10_readsCreditor_32 : decode cX10_readsCreditor 32 = .ok (.dup2, 1) := by decide +kernel
theorem dX10_readsCreditor_33 : decode cX10_readsCreditor 33 = .ok (.iaload, 1) := by decide +kernel
theorem dX10_readsCreditor_34 : decode cX10_readsCreditor 34 = .ok (.iconst 1, 1) := by decide +kernel
theorem dX10_readsCreditor_35 : decode cX10_readsCreditor 35 = .ok (.iadd, 1) := by decide +kernel
theorem dX10_readsCreditor_36 : decode cX10_readsCreditor 36 = .ok (.iastore, 1) := by decide +kernel
theorem dX10_readsCreditor_37 : decode cX10_readsCreditor 37 = .ok (.aload_n 0, 1) := by decide +kernel
theorem dX10_readsCreditor_38 : decode cX10_readsCreditor 38 = .ok (.iconst 5, 1) := by decide +kernel
theorem dX10_readsCreditor_39 : decode cX10_readsCreditor 39 = .ok (.iload_n 1, 1) := by decide +kernel
theorem dX10_readsCreditor_40 : decode cX10_readsCreditor 40 = .ok (.iadd, 1) := by decide +kernel
theorem dX10_readsCreditor_41 : decode cX10_readsCreditor 41 = .ok (.iconst 0, 1) := by decide +kernel
theorem dX10_readsCreditor_42 : decode cX10_readsCreditor 42 = .ok (.sipush 999, 3) := by decide +kernel
theorem dX10_readsCreditor_45 : decode cX10_readsCreditor 45 = .ok (.invokevirtual 118, 3) := by decide +kernel
theorem dX10_readsCreditor_48 : decode cX10_readsCreditor 48 = .ok (.ifCond .eq 33, 3) := by decide +kernel
theorem dX10_readsCreditor_51 : decode cX10_readsCreditor 51 = .ok (.aload_n 0, 1) := by decide +kernel
theorem dX10_readsCreditor_52 : decode cX10_readsCreditor 52 = .ok (.bipush 9, 2) := by decide +kernel
theorem dX10_readsCreditor_54 : decode cX10_readsCreditor 54 = .ok (.iload_n 1, 1) := by decide +kernel
theorem dX10_readsCreditor_55 : decode cX10_readsCreditor 55 = .ok (.iadd, 1) := by decide +kernel
theorem dX10_readsCreditor_56 : decode cX10_readsCreditor 56 = .ok (.iconst 1, 1) := by decide +kernel
theorem dX10_readsCreditor_57 : decode cX10_readsCreditor 57 = .ok (.sipush 999, 3) := by decide +kernel
theorem dX10_readsCreditor_60 : decode cX10_readsCreditor 60 = .ok (.invokevirtual 118, 3) := by decide +kernel
theorem dX10_readsCreditor_63 : decode cX10_readsCreditor 63 = .ok (.ifCond .eq 18, 3) := by decide +kernel
theorem dX10_readsCreditor_66 : decode cX10_readsCreditor 66 = .ok (.aload_n 0, 1) := by decide +kernel
theorem dX10_readsCreditor_67 : decode cX10_readsCreditor 67 = .ok (.bipush 13, 2) := by decide +kernel
theorem dX10_readsCreditor_69 : decode cX10_readsCreditor 69 = .ok (.iload_n 1, 1) := by decide +kernel
theorem dX10_readsCreditor_70 : decode cX10_readsCreditor 70 = .ok (.iadd, 1) := by decide +kernel
theorem dX10_readsCreditor_71 : decode cX10_readsCreditor 71 = .ok (.iconst 1, 1) := by decide +kernel
theorem dX10_readsCreditor_72 : decode cX10_readsCreditor 72 = .ok (.sipush 999, 3) := by decide +kernel
theorem dX10_readsCreditor_75 : decode cX10_readsCreditor 75 = .ok (.invokevirtual 118, 3) := by decide +kernel
theorem dX10_readsCreditor_78 : decode cX10_readsCreditor 78 = .ok (.ifCond .ne 5, 3) := by decide +kernel
theorem dX10_readsCreditor_81 : decode cX10_readsCreditor 81 = .ok (.iconst 0, 1) := by decide +kernel
theorem dX10_readsCreditor_82 : decode cX10_readsCreditor 82 = .ok (.ireturn, 1) := by decide +kernel
theorem dX10_readsCreditor_83 : decode cX10_readsCreditor 83 = .ok (.aload_n 0, 1) := by decide +kernel
theorem dX10_readsCreditor_84 : decode cX10_readsCreditor 84 = .ok (.getfield 13, 3) := by decide +kernel
theorem dX10_readsCreditor_87 : decode cX10_readsCreditor 87 = .ok (.bipush 13, 2) := by decide +kernel
theorem dX10_readsCreditor_89 : decode cX10_readsCreditor 89 = .ok (.iload_n 1, 1) := by decide +kernel
theorem dX10_readsCreditor_90 : decode cX10_readsCreditor 90 = .ok (.iadd, 1) := by decide +kernel
theorem dX10_readsCreditor_91 : decode cX10_readsCreditor 91 = .ok (.iaload, 1) := by decide +kernel
theorem dX10_readsCreditor_92 : decode cX10_readsCreditor 92 = .ok (.aload_n 0, 1) := by decide +kernel
theorem dX10_readsCreditor_93 : decode cX10_readsCreditor 93 = .ok (.getfield 13, 3) := by decide +kernel
theorem dX10_readsCreditor_96 : decode cX10_readsCreditor 96 = .ok (.bipush 9, 2) := by decide +kernel
theorem dX10_readsCreditor_98 : decode cX10_readsCreditor 98 = .ok (.iload_n 1, 1) := by decide +kernel
theorem dX10_readsCreditor_99 : decode cX10_readsCreditor 99 = .ok (.iadd, 1) := by decide +kernel
theorem dX10_readsCreditor_100 : decode cX10_readsCreditor 100 = .ok (.iaload, 1) := by decide +kernel
theorem dX10_readsCreditor_101 : decode cX10_readsCreditor 101 = .ok (.if_icmp .ge 9, 3) := by decide +kernel
theorem dX10_readsCreditor_104 : decode cX10_readsCreditor 104 = .ok (.aload_n 0, 1) := by decide +kernel
theorem dX10_readsCreditor_105 : decode cX10_readsCreditor 105 = .ok (.iconst 4, 1) := by decide +kernel
theorem dX10_readsCreditor_106 : decode cX10_readsCreditor 106 = .ok (.invokevirtual 114, 3) := by decide +kernel
theorem dX10_readsCreditor_109 : decode cX10_readsCreditor 109 = .ok (.ireturn, 1) := by decide +kernel
theorem dX10_readsCreditor_110 : decode cX10_readsCreditor 110 = .ok (.aload_n 0, 1) := by decide +kernel
theorem dX10_readsCreditor_111 : decode cX10_readsCreditor 111 = .ok (.bipush 17, 2) := by decide +kernel
theorem dX10_readsCreditor_113 : decode cX10_readsCreditor 113 = .ok (.iload_n 1, 1) := by decide +kernel
theorem dX10_readsCreditor_114 : decode cX10_readsCreditor 114 = .ok (.iadd, 1) := by decide +kernel
theorem dX10_readsCreditor_115 : decode cX10_readsCreditor 115 = .ok (.iconst 1, 1) := by decide +kernel
theorem dX10_readsCreditor_116 : decode cX10_readsCreditor 116 = .ok (.bipush 9, 2) := by decide +kernel
theorem dX10_readsCreditor_118 : decode cX10_readsCreditor 118 = .ok (.invokevirtual 118, 3) := by decide +kernel
theorem dX10_readsCreditor_121 : decode cX10_readsCreditor 121 = .ok (.ifCond .eq 14, 3) := by decide +kernel
theorem dX10_readsCreditor_124 : decode cX10_readsCreditor 124 = .ok (.aload_n 0, 1) := by decide +kernel
theorem dX10_readsCreditor_125 : decode cX10_readsCreditor 125 = .ok (.invokevirtual 122, 3) := by decide +kernel
theorem dX10_readsCreditor_128 : decode cX10_readsCreditor 128 = .ok (.ifCond .eq 7, 3) := by decide +kernel
theorem dX10_readsCreditor_131 : decode cX10_readsCreditor 131 = .ok (.iconst 1, 1) := by decide +kernel
theorem dX10_readsCreditor_132 : decode cX10_readsCreditor 132 = .ok (.goto 4, 3) := by decide +kernel
theorem dX10_readsCreditor_135 : decode cX10_readsCreditor 135 = .ok (.iconst 0, 1) := by decide +kernel
theorem dX10_readsCreditor_136 : decode cX10_readsCreditor 136 = .ok (.ireturn, 1) := by decide +kernel
theorem dX10_readsPerson_0 : decode cX10_readsPerson 0 = .ok (.aload_n 0, 1) := by decide +kernel
theorem dX10_readsPerson_1 : decode cX10_readsPerson 1 = .ok (.getfield 13, 3) := by decide +kernel
theorem dX10_readsPerson_4 : decode cX10_readsPerson 4 = .ok (.iconst 4, 1) := by decide +kernel
theorem dX10_readsPerson_5 : decode cX10_readsPerson 5 = .ok (.iaload, 1) := by decide +kernel
theorem dX10_readsPerson_6 : decode cX10_readsPerson 6 = .ok (.istore_n 2, 1) := by decide +kernel
theorem dX10_readsPerson_7 : decode cX10_readsPerson 7 = .ok (.iload_n 2, 1) := by decide +kernel
theorem dX10_readsPerson_8 : decode cX10_readsPerson 8 = .ok (.bipush 8, 2) := by decide +kernel
theorem dX10_readsPerson_10 : decode cX10_readsPerson 10 = .ok (.if_icmp .eq 12, 3) := by decide +kernel
theorem dX10_readsPerson_13 : decode cX10_readsPerson 13 = .ok (.aload_n 0, 1) := by decide +kernel
theorem dX10_readsPerson_14 : decode cX10_readsPerson 14 = .ok (.getfield 13, 3) := by decide +kernel
theorem dX10_readsPerson_17 : decode cX10_readsPerson 17 = .ok (.iconst 3, 1) := by decide +kernel
theorem dX10_readsPerson_18 : decode cX10_readsPerson 18 = .ok (.iaload, 1) := by decide +kernel
theorem dX10_readsPerson_19 : decode cX10_readsPerson 19 = .ok (.ifCond .ne 9, 3) := by decide +kernel
theorem dX10_readsPerson_22 : decode cX10_readsPerson 22 = .ok (.aload_n 0, 1) := by decide +kernel
theorem dX10_readsPerson_23 : decode cX10_readsPerson 23 = .ok (.iconst 3, 1) := by decide +kernel
theorem dX10_readsPerson_24 : decode cX10_readsPerson 24 = .ok (.invokevirtual 114, 3) := by decide +kernel
theorem dX10_readsPerson_27 : decode cX10_readsPerson 27 = .ok (.ireturn, 1) := by decide +kernel
theorem dX10_readsPerson_28 : decode cX10_readsPerson 28 = .ok (.aload_n 0, 1) := by decide +kernel
theorem dX10_readsPerson_29 : decode cX10_readsPerson 29 = .ok (.getfield 13, 3) := by decide +kernel
theorem dX10_readsPerson_32 : decode cX10_readsPerson 32 = .ok (.iconst 4, 1) := by decide +kernel
theorem dX10_readsPerson_33 : decode cX10_readsPerson 33 = .ok (.dup2, 1) := by decide +kernel
theorem dX10_readsPerson_34 : decode cX10_readsPerson 34 = .ok (.iaload, 1) := by decide +kernel
theorem dX10_readsPerson_35 : decode cX10_readsPerson 35 = .ok (.iconst 1, 1) := by decide +kernel
theorem dX10_readsPerson_36 : decode cX10_readsPerson 36 = .ok (.iadd, 1) := by decide +kernel
theorem dX10_readsPerson_37 : decode cX10_readsPerson 37 = .ok (.iastore, 1) := by decide +kernel
theorem dX10_readsPerson_38 : decode cX10_readsPerson 38 = .ok (.aload_n 0, 1) := by decide +kernel
theorem dX10_readsPerson_39 : decode cX10_readsPerson 39 = .ok (.getfield 13, 3) := by decide +kernel
theorem dX10_readsPerson_42 : decode cX10_readsPerson 42 = .ok (.bipush 21, 2) := by decide +kernel
theorem dX10_readsPerson_44 : decode cX10_readsPerson 44 = .ok (.dup2, 1) := by decide +kernel
theorem dX10_readsPerson_45 : decode cX10_readsPerson 45 = .ok (.iaload, 1) := by decide +kernel
theorem dX10_readsPerson_46 : decode cX10_readsPerson 46 = .ok (.iload_n 1, 1) := by decide +kernel
theorem dX10_readsPerson_47 : decode cX10_readsPerson 47 = .ok (.ifCond .eq 9, 3) := by decide +kernel
theorem dX10_readsPerson_50 : decode cX10_readsPerson 50 = .ok (.iconst 1, 1) := by decide +kernel
theorem dX10_readsPerson_51 : decode cX10_readsPerson 51 = .ok (.iload_n 2, 1) := by decide +kernel
theorem dX10_readsPerson_52 : decode cX10_readsPerson 52 = .ok (.ishl, 1) := by decide +kernel
theorem dX10_readsPerson_53 : decode cX10_readsPerson 53 = .ok (.goto 4, 3) := by decide +kernel
theorem dX10_readsPerson_56 : decode cX10_readsPerson 56 = .ok (.iconst 0, 1) := by decide +kernel
theorem dX10_readsPerson_57 : decode cX10_readsPerson 57 = .ok (.ior, 1) := by decide +kernel
theorem dX10_readsPerson_58 : decode cX10_readsPerson 58 = .ok (.iastore, 1) := by decide +kernel
theorem dX10_readsPerson_59 : decode cX10_readsPerson 59 = .ok (.iconst 0, 1) := by decide +kernel
theorem dX10_readsPerson_60 : decode cX10_readsPerson 60 = .ok (.istore_n 3, 1) := by decide +kernel
theorem dX10_readsPerson_61 : decode cX10_readsPerson 61 = .ok (.iload_n 3, 1) := by decide +kernel
theorem dX10_readsPerson_62 : decode cX10_readsPerson 62 = .ok (.aload_n 0, 1) := by decide +kernel
theorem dX10_readsPerson_63 : decode cX10_readsPerson 63 = .ok (.getfield 13, 3) := by decide +kernel
theorem dX10_readsPerson_66 : decode cX10_readsPerson 66 = .ok (.iconst 3, 1) := by decide +kernel
theorem dX10_readsPerson_67 : decode cX10_readsPerson 67 = .ok (.iaload, 1) := by decide +kernel
theorem dX10_readsPerson_68 : decode cX10_readsPerson 68 = .ok (.if_icmp .ge 66, 3) := by decide +kernel
theorem dX10_readsPerson_71 : decode cX10_readsPerson 71 = .ok (.aload_n 0, 1) := by decide +kernel
theorem dX10_readsPerson_72 : decode cX10_readsPerson 72 = .ok (.bipush 22, 2) := by decide +kernel
theorem dX10_readsPerson_74 : decode cX10_readsPerson 74 = .ok (.iconst 4, 1) := by decide +kernel
theorem dX10_readsPerson_75 : decode cX10_readsPerson 75 = .ok (.iload_n 2, 1) := by decide +kernel
theorem dX10_readsPerson_76 : decode cX10_readsPerson 76 = .ok (.imul, 1) := by decide +kernel
theorem dX10_readsPerson_77 : decode cX10_readsPerson 77 = .ok (.iadd, 1) := by decide +kernel
theorem dX10_readsPerson_78 : decode cX10_readsPerson 78 = .ok (.iload_n 3, 1) := by decide +kernel
theorem dX10_readsPerson_79 : decode cX10_readsPerson 79 = .ok (.iadd, 1) := by decide +kernel
theorem dX10_readsPerson_80 : decode cX10_readsPerson 80 = .ok (.iconst 0, 1) := by decide +kernel
theorem dX10_readsPerson_81 : decode cX10_readsPerson 81 = .ok (.sipush 999, 3) := by decide +kernel
theorem dX10_readsPerson_84 : decode cX10_readsPerson 84 = .ok (.invokevirtual 118, 3) := by decide +kernel
theorem dX10_readsPerson_87 : decode cX10_readsPerson 87 = .ok (.ifCond .ne 5, 3) := by decide +kernel
theorem dX10_readsPerson_90 : decode cX10_readsPerson 90 = .ok (.iconst 0, 1) := by decide +kernel
theorem dX10_readsPerson_91 : decode cX10_readsPerson 91 = .ok (.ireturn, 1) := by decide +kernel
theorem dX10_readsPerson_92 : decode cX10_readsPerson 92 = .ok (.aload_n 0, 1) := by decide +kernel
theorem dX10_readsPerson_93 : decode cX10_readsPerson 93 = .ok (.invokevirtual 111, 3) := by decide +kernel
theorem dX10_readsPerson_96 : decode cX10_readsPerson 96 = .ok (.aload_n 0, 1) := by decide +kernel
theorem dX10_readsPerson_97 : decode cX10_readsPerson 97 = .ok (.getfield 95, 3) := by decide +kernel
theorem dX10_readsPerson_100 : decode cX10_readsPerson 100 = .ok (.iload_n 3, 1) := by decide +kernel
theorem dX10_readsPerson_101 : decode cX10_readsPerson 101 = .ok (.aload_n 0, 1) := by decide +kernel
theorem dX10_readsPerson_102 : decode cX10_readsPerson 102 = .ok (.getfield 13, 3) := by decide +kernel
theorem dX10_readsPerson_105 : decode cX10_readsPerson 105 = .ok (.iconst 3, 1) := by decide +kernel
theorem dX10_readsPerson_106 : decode cX10_readsPerson 106 = .ok (.iaload, 1) := by decide +kernel
theorem dX10_readsPerson_107 : decode cX10_readsPerson 107 = .ok (.iconst 1, 1) := by decide +kernel
theorem dX10_readsPerson_108 : decode cX10_readsPerson 108 = .ok (.isub, 1) := by decide +kernel
theorem dX10_readsPerson_109 : decode cX10_readsPerson 109 = .ok (.if_icmp .ge 8, 3) := by decide +kernel
theorem dX10_readsPerson_112 : decode cX10_readsPerson 112 = .ok (.bipush 44, 2) := by decide +kernel
theorem dX10_readsPerson_114 : decode cX10_readsPerson 114 = .ok (.goto 5, 3) := by decide +kernel
theorem dX10_readsPerson_117 : decode cX10_readsPerson 117 = .ok (.bipush 59, 2) := by decide +kernel
theorem dX10_readsPerson_119 : decode cX10_readsPerson 119 = .ok (.if_icmp .eq 9, 3) := by decide +kernel
theorem dX10_readsPerson_122 : decode cX10_readsPerson 122 = .ok (.aload_n 0, 1) := by decide +kernel
theorem dX10_readsPerson_123 : decode cX10_readsPerson 123 = .ok (.iconst 1, 1) := by decide +kernel
theorem dX10_readsPerson_124 : decode cX10_readsPerson 124 = .ok (.invokevirtual 114, 3) := by decide +kernel
theorem dX10_readsPerson_127 : decode cX10_readsPerson 127 = .ok (.ireturn, 1) := by decide +kernel
theorem dX10_readsPerson_128 : decode cX10_readsPerson 128 = .ok (.iinc 3 1, 3) := by decide +kernel
theorem dX10_readsPerson_131 : decode cX10_readsPerson 131 = .ok (.goto (-70), 3) := by decide +kernel
theorem dX10_readsPerson_134 : decode cX10_readsPerson 134 = .ok (.iconst 1, 1) := by decide +kernel
theorem dX10_readsPerson_135 : decode cX10_readsPerson 135 = .ok (.ireturn, 1) := by decide +kernel
theorem dX10_readsClause_0 : decode cX10_readsClause 0 = .ok (.aload_n 0, 1) := by decide +kernel
theorem dX10_readsClause_1 : decode cX10_readsClause 1 = .ok (.getfield 95, 3) := by decide +kernel
theorem dX10_readsClause_4 : decode cX10_readsClause 4 = .ok (.bipush 105, 2) := by decide +kernel
theorem dX10_readsClause_6 : decode cX10_readsClause 6 = .ok (.if_icmp .ne 8, 3) := by decide +kernel
theorem dX10_readsClause_9 : decode cX10_readsClause 9 = .ok (.aload_n 0, 1) := by decide +kernel
theorem dX10_readsClause_10 : decode cX10_readsClause 10 = .ok (.invokevirtual 126, 3) := by decide +kernel
theorem dX10_readsClause_13 : decode cX10_readsClause 13 = .ok (.ireturn, 1) := by decide +kernel
theorem dX10_readsClause_14 : decode cX10_readsClause 14 = .ok (.aload_n 0, 1) := by decide +kernel
theorem dX10_readsClause_15 : decode cX10_readsClause 15 = .ok (.getfield 13, 3) := by decide +kernel
theorem dX10_readsClause_18 : decode cX10_readsClause 18 = .ok (.iconst 0, 1) := by decide +kernel
theorem dX10_readsClause_19 : decode cX10_readsClause 19 = .ok (.iaload, 1) := by decide +kernel
theorem dX10_readsClause_20 : decode cX10_readsClause 20 = .ok (.ifCond .ne 9, 3) := by decide +kernel
theorem dX10_readsClause_23 : decode cX10_readsClause 23 = .ok (.aload_n 0, 1) := by decide +kernel
theorem dX10_readsClause_24 : decode cX10_readsClause 24 = .ok (.iconst 1, 1) := by decide +kernel
theorem dX10_readsClause_25 : decode cX10_readsClause 25 = .ok (.invokevirtual 114, 3) := by decide +kernel
theorem dX10_readsClause_28 : decode cX10_readsClause 28 = .ok (.ireturn, 1) := by decide +kernel
theorem dX10_readsClause_29 : decode cX10_readsClause 29 = .ok (.aload_n 0, 1) := by decide +kernel
theorem dX10_readsClause_30 : decode cX10_readsClause 30 = .ok (.getfield 95, 3) := by decide +kernel
theorem dX10_readsClause_33 : decode cX10_readsClause 33 = .ok (.lookupswitch 52 #[(99, 35), (103, 40), (109, 46)], 35) := by decide +kernel
theorem dX10_readsClause_68 : decode cX10_readsClause 68 = .ok (.aload_n 0, 1) := by decide +kernel
theorem dX10_readsClause_69 : decode cX10_readsClause 69 = .ok (.invokevirtual 129, 3) := by decide +kernel
theorem dX10_readsClause_72 : decode cX10_readsClause 72 = .ok (.ireturn, 1) := by decide +kernel
theorem dX10_readsClause_73 : decode cX10_readsClause 73 = .ok (.aload_n 0, 1) := by decide +kernel
theorem dX10_readsClause_74 : decode cX10_readsClause 74 = .ok (.iconst 1, 1) := by decide +kernel
theorem dX10_readsClause_75 : decode cX10_readsClause 75 = .ok (.invokevirtual 132, 3) := by decide +kernel
theorem dX10_readsClause_78 : decode cX10_readsClause 78 = .ok (.ireturn, 1) := by decide +kernel
theorem dX10_readsClause_79 : decode cX10_readsClause 79 = .ok (.aload_n 0, 1) := by decide +kernel
theorem dX10_readsClause_80 : decode cX10_readsClause 80 = .ok (.iconst 0, 1) := by decide +kernel
theorem dX10_readsClause_81 : decode cX10_readsClause 81 = .ok (.invokevirtual 132, 3) := by decide +kernel
theorem dX10_readsClause_84 : decode cX10_readsClause 84 = .ok (.ireturn, 1) := by decide +kernel
theorem dX10_readsClause_85 : decode cX10_readsClause 85 = .ok (.aload_n 0, 1) := by decide +kernel
theorem dX10_readsClause_86 : decode cX10_readsClause 86 = .ok (.iconst 1, 1) := by decide +kernel
theorem dX10_readsClause_87 : decode cX10_readsClause 87 = .ok (.invokevirtual 114, 3) := by decide +kernel
theorem dX10_readsClause_90 : decode cX10_readsClause 90 = .ok (.ireturn, 1) := by decide +kernel
theorem dX10_town_0 : decode cX10_town 0 = .ok (.iconst 0, 1) := by decide +kernel
theorem dX10_town_1 : decode cX10_town 1 = .ok (.istore_n 1, 1) := by decide +kernel
theorem dX10_town_2 : decode cX10_town 2 = .ok (.iload_n 1, 1) := by decide +kernel
theorem dX10_town_3 : decode cX10_town 3 = .ok (.bipush 54, 2) := by decide +kernel
theorem dX10_town_5 : decode cX10_town 5 = .ok (.if_icmp .ge 16, 3) := by decide +kernel
theorem dX10_town_8 : decode cX10_town 8 = .ok (.aload_n 0, 1) := by decide +kernel
theorem dX10_town_9 : decode cX10_town 9 = .ok (.getfield 13, 3) := by decide +kernel
theorem dX10_town_12 : decode cX10_town 12 = .ok (.iload_n 1, 1) := by decide +kernel
theorem dX10_town_13 : decode cX10_town 13 = .ok (.iconst 0, 1) := by decide +kernel
theorem dX10_town_14 : decode cX10_town 14 = .ok (.iastore, 1) := by decide +kernel
theorem dX10_town_15 : decode cX10_town 15 = .ok (.iinc 1 1, 3) := by decide +kernel
theorem dX10_town_18 : decode cX10_town 18 = .ok (.goto (-16), 3) := by decide +kernel
theorem dX10_town_21 : decode cX10_town 21 = .ok (.aload_n 0, 1) := by decide +kernel
theorem dX10_town_22 : decode cX10_town 22 = .ok (.iconst 0, 1) := by decide +kernel
theorem dX10_town_23 : decode cX10_town 23 = .ok (.putfield 85, 3) := by decide +kernel
theorem dX10_town_26 : decode cX10_town 26 = .ok (.aload_n 0, 1) := by decide +kernel
theorem dX10_town_27 : decode cX10_town 27 = .ok (.iconst (-1), 1) := by decide +kernel
theorem dX10_town_28 : decode cX10_town 28 = .ok (.putfield 35, 3) := by decide +kernel
theorem dX10_town_31 : decode cX10_town 31 = .ok (.iconst 1, 1) := by decide +kernel
theorem dX10_town_32 : decode cX10_town 32 = .ok (.istore_n 1, 1) := by decide +kernel
theorem dX10_town_33 : decode cX10_town 33 = .ok (.aload_n 0, 1) := by decide +kernel
theorem dX10_town_34 : decode cX10_town 34 = .ok (.invokevirtual 111, 3) := by decide +kernel
theorem dX10_town_37 : decode cX10_town 37 = .ok (.aload_n 0, 1) := by decide +kernel
theorem dX10_town_38 : decode cX10_town 38 = .ok (.getfield 95, 3) := by decide +kernel
theorem dX10_town_41 : decode cX10_town 41 = .ok (.ifCond .lt 23, 3) := by decide +kernel
theorem dX10_town_44 : decode cX10_town 44 = .ok (.iload_n 1, 1) := by decide +kernel
theorem dX10_town_45 : decode cX10_town 45 = .ok (.ifCond .eq 19, 3) := by decide +kernel
theorem dX10_town_48 : decode cX10_town 48 = .ok (.aload_n 0, 1) := by decide +kernel
theorem dX10_town_49 : decode cX10_town 49 = .ok (.invokevirtual 136, 3) := by decide +kernel
theorem dX10_town_52 : decode cX10_town 52 = .ok (.istore_n 1, 1) := by decide +kernel
theorem dX10_town_53 : decode cX10_town 53 = .ok (.iload_n 1, 1) := by decide +kernel
theorem dX10_town_54 : decode cX10_town 54 = .ok (.ifCond .eq (-17), 3) := by decide +kernel
theorem dX10_town_57 : decode cX10_town 57 = .ok (.aload_n 0, 1) := by decide +kernel
theorem dX10_town_58 : decode cX10_town 58 = .ok (.invokevirtual 111, 3) := by decide +kernel
theorem dX10_town_61 : decode cX10_town 61 = .ok (.goto (-24), 3) := by decide +kernel
theorem dX10_town_64 : decode cX10_town 64 = .ok (.aload_n 0, 1) := by decide +kernel
theorem dX10_town_65 : decode cX10_town 65 = .ok (.iconst 0, 1) := by decide +kernel
theorem dX10_town_66 : decode cX10_town 66 = .ok (.putfield 81, 3) := by decide +kernel
theorem dX10_town_69 : decode cX10_town 69 = .ok (.iload_n 1, 1) := by decide +kernel
theorem dX10_town_70 : decode cX10_town 70 = .ok (.ifCond .ne 19, 3) := by decide +kernel
theorem dX10_town_73 : decode cX10_town 73 = .ok (.aload_n 0, 1) := by decide +kernel
theorem dX10_town_74 : decode cX10_town 74 = .ok (.aload_n 0, 1) := by decide +kernel
theorem dX10_town_75 : decode cX10_town 75 = .ok (.getfield 92, 3) := by decide +kernel
theorem dX10_town_78 : decode cX10_town 78 = .ok (.putfield 35, 3) := by decide +kernel
theorem dX10_town_81 : decode cX10_town 81 = .ok (.bipush (-10), 2) := by decide +kernel
theorem dX10_town_83 : decode cX10_town 83 = .ok (.aload_n 0, 1) := by decide +kernel
theorem dX10_town_84 : decode cX10_town 84 = .ok (.getfield 108, 3) := by decide +kernel
theorem dX10_town_87 : decode cX10_town 87 = .ok (.isub, 1) := by decide +kernel
theorem dX10_town_88 : decode cX10_town 88 = .ok (.ireturn, 1) := by decide +kernel
theorem dX10_town_89 : decode cX10_town 89 = .ok (.aload_n 0, 1) := by decide +kernel
theorem dX10_town_90 : decode cX10_town 90 = .ok (.getfield 13, 3) := by decide +kernel
theorem dX10_town_93 : decode cX10_town 93 = .ok (.iconst 0, 1) := by decide +kernel
theorem dX10_town_94 : decode cX10_town 94 = .ok (.aload_n 0, 1) := by decide +kernel
theorem dX10_town_95 : decode cX10_town 95 = .ok (.getfield 7, 3) := by decide +kernel
theorem dX10_town_98 : decode cX10_town 98 = .ok (.iconst 0, 1) := by decide +kernel
theorem dX10_town_99 : decode cX10_town 99 = .ok (.bipush 54, 2) := by decide +kernel
theorem dX10_town_101 : decode cX10_town 101 = .ok (.invokestatic 57, 3) := by decide +kernel
theorem dX10_town_104 : decode cX10_town 104 = .ok (.aload_n 0, 1) := by decide +kernel
theorem dX10_town_105 : decode cX10_town 105 = .ok (.invokevirtual 54, 3) := by decide +kernel
theorem dX10_town_108 : decode cX10_town 108 = .ok (.aload_n 0, 1) := by decide +kernel
theorem dX10_town_109 : decode cX10_town 109 = .ok (.getfield 7, 3) := by decide +kernel
theorem dX10_town_112 : decode cX10_town 112 = .ok (.iconst 4, 1) := by decide +kernel
theorem dX10_town_113 : decode cX10_town 113 = .ok (.iaload, 1) := by decide +kernel
theorem dX10_town_114 : decode cX10_town 114 = .ok (.ireturn, 1) := by decide +kernel
theorem dX10_fault_0 : decode cX10_fault 0 = .ok (.aload_n 0, 1) := by decide +kernel
theorem dX10_fault_1 : decode cX10_fault 1 = .ok (.getfield 35, 3) := by decide +kernel
theorem dX10_fault_4 : decode cX10_fault 4 = .ok (.ireturn, 1) := by decide +kernel
theorem dX10_isCreditor_0 : decode cX10_isCreditor 0 = .ok (.iload_n 1, 1) := by decide +kernel
theorem dX10_isCreditor_1 : decode cX10_isCreditor 1 = .ok (.i2l, 1) := by decide +kernel
theorem dX10_isCreditor_2 : decode cX10_isCreditor 2 = .ok (.lconst 0, 1) := by decide +kernel
theorem dX10_isCreditor_3 : decode cX10_isCreditor 3 = .ok (.aload_n 0, 1) := by decide +kernel
theorem dX10_isCreditor_4 : decode cX10_isCreditor 4 = .ok (.getfield 7, 3) := by decide +kernel
theorem dX10_isCreditor_7 : decode cX10_isCreditor 7 = .ok (.iconst 3, 1) := by decide +kernel
theorem dX10_isCreditor_8 : decode cX10_isCreditor 8 = .ok (.iaload, 1) := by decide +kernel
theorem dX10_isCreditor_9 : decode cX10_isCreditor 9 = .ok (.iconst 1, 1) := by decide +kernel
theorem dX10_isCreditor_10 : decode cX10_isCreditor 10 = .ok (.isub, 1) := by decide +kernel
theorem dX10_isCreditor_11 : decode cX10_isCreditor 11 = .ok (.i2l, 1) := by decide +kernel
theorem dX10_isCreditor_12 : decode cX10_isCreditor 12 = .ok (.invokestatic 65, 3) := by decide +kernel
theorem dX10_isCreditor_15 : decode cX10_isCreditor 15 = .ok (.ireturn, 1) := by decide +kernel
theorem dX10_isPerson_0 : decode cX10_isPerson 0 = .ok (.iload_n 1, 1) := by decide +kernel
theorem dX10_isPerson_1 : decode cX10_isPerson 1 = .ok (.i2l, 1) := by decide +kernel
theorem dX10_isPerson_2 : decode cX10_isPerson 2 = .ok (.lconst 0, 1) := by decide +kernel
theorem dX10_isPerson_3 : decode cX10_isPerson 3 = .ok (.aload_n 0, 1) := by decide +kernel
theorem dX10_isPerson_4 : decode cX10_isPerson 4 = .ok (.getfield 7, 3) := by decide +kernel
theorem dX10_isPerson_7 : decode cX10_isPerson 7 = .ok (.iconst 4, 1) := by decide +kernel
theorem dX10_isPerson_8 : decode cX10_isPerson 8 = .ok (.iaload, 1) := by decide +kernel
theorem dX10_isPerson_9 : decode cX10_isPerson 9 = .ok (.iconst 1, 1) := by decide +kernel
theorem dX10_isPerson_10 : decode cX10_isPerson 10 = .ok (.isub, 1) := by decide +kernel
theorem dX10_isPerson_11 : decode cX10_isPerson 11 = .ok (.i2l, 1) := by decide +kernel
theorem dX10_isPerson_12 : decode cX10_isPerson 12 = .ok (.invokestatic 65, 3) := by decide +kernel
theorem dX10_isPerson_15 : decode cX10_isPerson 15 = .ok (.ireturn, 1) := by decide +kernel
theorem dX10_isGirl_0 : decode cX10_isGirl 0 = .ok (.aload_n 0, 1) := by decide +kernel
theorem dX10_isGirl_1 : decode cX10_isGirl 1 = .ok (.iload_n 1, 1) := by decide +kernel
theorem dX10_isGirl_2 : decode cX10_isGirl 2 = .ok (.invokevirtual 139, 3) := by decide +kernel
theorem dX10_isGirl_5 : decode cX10_isGirl 5 = .ok (.ifCond .eq 21, 3) := by decide +kernel
theorem dX10_isGirl_8 : decode cX10_isGirl 8 = .ok (.aload_n 0, 1) := by decide +kernel
theorem dX10_isGirl_9 : decode cX10_isGirl 9 = .ok (.getfield 7, 3) := by decide +kernel
theorem dX10_isGirl_12 : decode cX10_isGirl 12 = .ok (.bipush 21, 2) := by decide +kernel
theorem dX10_isGirl_14 : decode cX10_isGirl 14 = .ok (.iaload, 1) := by decide +kernel
theorem dX10_isGirl_15 : decode cX10_isGirl 15 = .ok (.iload_n 1, 1) := by decide +kernel
theorem dX10_isGirl_16 : decode cX10_isGirl 16 = .ok (.invokestatic 142, 3) := by decide +kernel
theorem dX10_isGirl_19 : decode cX10_isGirl 19 = .ok (.ifCond .eq 7, 3) := by decide +kernel
theorem dX10_isGirl_22 : decode cX10_isGirl 22 = .ok (.iconst 1, 1) := by decide +kernel
theorem dX10_isGirl_23 : decode cX10_isGirl 23 = .ok (.goto 4, 3) := by decide +kernel
theorem dX10_isGirl_26 : decode cX10_isGirl 26 = .ok (.iconst 0, 1) := by decide +kernel
theorem dX10_isGirl_27 : decode cX10_isGirl 27 = .ok (.ireturn, 1) := by decide +kernel
theorem dX10_isMan_0 : decode cX10_isMan 0 = .ok (.aload_n 0, 1) := by decide +kernel
theorem dX10_isMan_1 : decode cX10_isMan 1 = .ok (.iload_n 1, 1) := by decide +kernel
theorem dX10_isMan_2 : decode cX10_isMan 2 = .ok (.invokevirtual 139, 3) := by decide +kernel
theorem dX10_isMan_5 : decode cX10_isMan 5 = .ok (.ifCond .eq 21, 3) := by decide +kernel
theorem dX10_isMan_8 : decode cX10_isMan 8 = .ok (.aload_n 0, 1) := by decide +kernel
theorem dX10_isMan_9 : decode cX10_isMan 9 = .ok (.getfield 7, 3) := by decide +kernel
theorem dX10_isMan_12 : decode cX10_isMan 12 = .ok (.bipush 21, 2) := by decide +kernel
theorem dX10_isMan_14 : decode cX10_isMan 14 = .ok (.iaload, 1) := by decide +kernel
theorem dX10_isMan_15 : decode cX10_isMan 15 = .ok (.iload_n 1, 1) := by decide +kernel
theorem dX10_isMan_16 : decode cX10_isMan 16 = .ok (.invokestatic 142, 3) := by decide +kernel
theorem dX10_isMan_19 : decode cX10_isMan 19 = .ok (.ifCond .ne 7, 3) := by decide +kernel
theorem dX10_isMan_22 : decode cX10_isMan 22 = .ok (.iconst 1, 1) := by decide +kernel
theorem dX10_isMan_23 : decode cX10_isMan 23 = .ok (.goto 4, 3) := by decide +kernel
theorem dX10_isMan_26 : decode cX10_isMan 26 = .ok (.iconst 0, 1) := by decide +kernel
theorem dX10_isMan_27 : decode cX10_isMan 27 = .ok (.ireturn, 1) := by decide +kernel
theorem dX10_temperOf_0 : decode cX10_temperOf 0 = .ok (.aload_n 1, 1) := by decide +kernel
theorem dX10_temperOf_1 : decode cX10_temperOf 1 = .ok (.iconst 0, 1) := by decide +kernel
theorem dX10_temperOf_2 : decode cX10_temperOf 2 = .ok (.iconst 4, 1) := by decide +kernel
theorem dX10_temperOf_3 : decode cX10_temperOf 3 = .ok (.iload_n 2, 1) := by decide +kernel
theorem dX10_temperOf_4 : decode cX10_temperOf 4 = .ok (.imul, 1) := by decide +kernel
theorem dX10_temperOf_5 : decode cX10_temperOf 5 = .ok (.iadd, 1) := by decide +kernel
theorem dX10_temperOf_6 : decode cX10_temperOf 6 = .ok (.iload_n 3, 1) := by decide +kernel
theorem dX10_temperOf_7 : decode cX10_temperOf 7 = .ok (.iadd, 1) := by decide +kernel
theorem dX10_temperOf_8 : decode cX10_temperOf 8 = .ok (.iaload, 1) := by decide +kernel
theorem dX10_temperOf_9 : decode cX10_temperOf 9 = .ok (.istore 4, 2) := by decide +kernel
theorem dX10_temperOf_11 : decode cX10_temperOf 11 = .ok (.aload_n 1, 1) := by decide +kernel
theorem dX10_temperOf_12 : decode cX10_temperOf 12 = .ok (.bipush 52, 2) := by decide +kernel
theorem dX10_temperOf_14 : decode cX10_temperOf 14 = .ok (.iaload, 1) := by decide +kernel
theorem dX10_temperOf_15 : decode cX10_temperOf 15 = .ok (.iload_n 3, 1) := by decide +kernel
theorem dX10_temperOf_16 : decode cX10_temperOf 16 = .ok (.invokestatic 142, 3) := by decide +kernel
theorem dX10_temperOf_19 : decode cX10_temperOf 19 = .ok (.ifCond .eq 5, 3) := by decide +kernel
theorem dX10_temperOf_22 : decode cX10_temperOf 22 = .ok (.iconst 3, 1) := by decide +kernel
theorem dX10_temperOf_23 : decode cX10_temperOf 23 = .ok (.ireturn, 1) := by decide +kernel
theorem dX10_temperOf_24 : decode cX10_temperOf 24 = .ok (.aload_n 1, 1) := by decide +kernel
theorem dX10_temperOf_25 : decode cX10_temperOf 25 = .ok (.bipush 36, 2) := by decide +kernel
theorem dX10_temperOf_27 : decode cX10_temperOf 27 = .ok (.iload_n 2, 1) := by decide +kernel
theorem dX10_temperOf_28 : decode cX10_temperOf 28 = .ok (.iadd, 1) := by decide +kernel
theorem dX10_temperOf_29 : decode cX10_temperOf 29 = .ok (.iaload, 1) := by decide +kernel
theorem dX10_temperOf_30 : decode cX10_temperOf 30 = .ok (.iload_n 3, 1) := by decide +kernel
theorem dX10_temperOf_31 : decode cX10_temperOf 31 = .ok (.invokestatic 142, 3) := by decide +kernel
theorem dX10_temperOf_34 : decode cX10_temperOf 34 = .ok (.ifCond .ne 17, 3) := by decide +kernel
theorem dX10_temperOf_37 : decode cX10_temperOf 37 = .ok (.iload 4, 2) := by decide +kernel
theorem dX10_temperOf_39 : decode cX10_temperOf 39 = .ok (.aload_n 0, 1) := by decide +kernel
theorem dX10_temperOf_40 : decode cX10_temperOf 40 = .ok (.getfield 7, 3) := by decide +kernel
theorem dX10_temperOf_43 : decode cX10_temperOf 43 = .ok (.bipush 9, 2) := by decide +kernel
theorem dX10_temperOf_45 : decode cX10_temperOf 45 = .ok (.iload_n 3, 1) := by decide +kernel
theorem dX10_temperOf_46 : decode cX10_temperOf 46 = .ok (.iadd, 1) := by decide +kernel
theorem dX10_temperOf_47 : decode cX10_temperOf 47 = .ok (.iaload, 1) := by decide +kernel
theorem dX10_temperOf_48 : decode cX10_temperOf 48 = .ok (.if_icmp .ge 5, 3) := by decide +kernel
theorem dX10_temperOf_51 : decode cX10_temperOf 51 = .ok (.iconst 0, 1) := by decide +kernel
theorem dX10_temperOf_52 : decode cX10_temperOf 52 = .ok (.ireturn, 1) := by decide +kernel
theorem dX10_temperOf_53 : decode cX10_temperOf 53 = .ok (.iload 4, 2) := by decide +kernel
theorem dX10_temperOf_55 : decode cX10_temperOf 55 = .ok (.aload_n 0, 1) := by decide +kernel
theorem dX10_temperOf_56 : decode cX10_temperOf 56 = .ok (.getfield 7, 3) := by decide +kernel
theorem dX10_temperOf_59 : decode cX10_temperOf 59 = .ok (.bipush 13, 2) := by decide +kernel
theorem dX10_temperOf_61 : decode cX10_temperOf 61 = .ok (.iload_n 3, 1) := by decide +kernel
theorem dX10_temperOf_62 : decode cX10_temperOf 62 = .ok (.iadd, 1) := by decide +kernel
theorem dX10_temperOf_63 : decode cX10_temperOf 63 = .ok (.iaload, 1) := by decide +kernel
theorem dX10_temperOf_64 : decode cX10_temperOf 64 = .ok (.if_icmp .gt 7, 3) := by decide +kernel
theorem dX10_temperOf_67 : decode cX10_temperOf 67 = .ok (.iconst 1, 1) := by decide +kernel
theorem dX10_temperOf_68 : decode cX10_temperOf 68 = .ok (.goto 4, 3) := by decide +kernel
theorem dX10_temperOf_71 : decode cX10_temperOf 71 = .ok (.iconst 2, 1) := by decide +kernel
theorem dX10_temperOf_72 : decode cX10_temperOf 72 = .ok (.ireturn, 1) := by decide +kernel
theorem dX10_standing_0 : decode cX10_standing 0 = .ok (.iconst 0, 1) := by decide +kernel
theorem dX10_standing_1 : decode cX10_standing 1 = .ok (.istore_n 3, 1) := by decide +kernel
theorem dX10_standing_2 : decode cX10_standing 2 = .ok (.iconst 0, 1) := by decide +kernel
theorem dX10_standing_3 : decode cX10_standing 3 = .ok (.istore 4, 2) := by decide +kernel
theorem dX10_standing_5 : decode cX10_standing 5 = .ok (.iload 4, 2) := by decide +kernel
theorem dX10_standing_7 : decode cX10_standing 7 = .ok (.aload_n 0, 1) := by decide +kernel
theorem dX10_standing_8 : decode cX10_standing 8 = .ok (.getfield 7, 3) := by decide +kernel
theorem dX10_standing_11 : decode cX10_standing 11 = .ok (.iconst 3, 1) := by decide +kernel
theorem dX10_standing_12 : decode cX10_standing 12 = .ok (.iaload, 1) := by decide +kernel
theorem dX10_standing_13 : decode cX10_standing 13 = .ok (.if_icmp .ge 52, 3) := by decide +kernel
theorem dX10_standing_16 : decode cX10_standing 16 = .ok (.aload_n 0, 1) := by decide +kernel
theorem dX10_standing_17 : decode cX10_standing 17 = .ok (.aload_n 1, 1) := by decide +kernel
theorem dX10_standing_18 : decode cX10_standing 18 = .ok (.iload_n 2, 1) := by decide +kernel
theorem dX10_standing_19 : decode cX10_standing 19 = .ok (.iload 4, 2) := by decide +kernel
theorem dX10_standing_21 : decode cX10_standing 21 = .ok (.invokevirtual 146, 3) := by decide +kernel
theorem dX10_standing_24 : decode cX10_standing 24 = .ok (.istore 5, 2) := by decide +kernel
theorem dX10_standing_26 : decode cX10_standing 26 = .ok (.iload_n 3, 1) := by decide +kernel
theorem dX10_standing_27 : decode cX10_standing 27 = .ok (.iload 5, 2) := by decide +kernel
theorem dX10_standing_29 : decode cX10_standing 29 = .ok (.iconst 1, 1) := by decide +kernel
theorem dX10_standing_30 : decode cX10_standing 30 = .ok (.if_icmp .ne 16, 3) := by decide +kernel
theorem dX10_standing_33 : decode cX10_standing 33 = .ok (.aload_n 0, 1) := by decide +kernel
theorem dX10_standing_34 : decode cX10_standing 34 = .ok (.getfield 7, 3) := by decide +kernel
theorem dX10_standing_37 : decode cX10_standing 37 = .ok (.bipush 17, 2) := by decide +kernel
theorem dX10_standing_39 : decode cX10_standing 39 = .ok (.iload 4, 2) := by decide +kernel
theorem dX10_standing_41 : decode cX10_standing 41 = .ok (.iadd, 1) := by decide +kernel
theorem dX10_standing_42 : decode cX10_standing 42 = .ok (.iaload, 1) := by decide +kernel
theorem dX10_standing_43 : decode cX10_standing 43 = .ok (.goto 14, 3) := by decide +kernel
theorem dX10_standing_46 : decode cX10_standing 46 = .ok (.iload 5, 2) := by decide +kernel
theorem dX10_standing_48 : decode cX10_standing 48 = .ok (.iconst 2, 1) := by decide +kernel
theorem dX10_standing_49 : decode cX10_standing 49 = .ok (.if_icmp .ne 7, 3) := by decide +kernel
theorem dX10_standing_52 : decode cX10_standing 52 = .ok (.iconst (-1), 1) := by decide +kernel
theorem dX10_standing_53 : decode cX10_standing 53 = .ok (.goto 4, 3) := by decide +kernel
theorem dX10_standing_56 : decode cX10_standing 56 = .ok (.iconst 0, 1) := by decide +kernel
theorem dX10_standing_57 : decode cX10_standing 57 = .ok (.iadd, 1) := by decide +kernel
theorem dX10_standing_58 : decode cX10_standing 58 = .ok (.istore_n 3, 1) := by decide +kernel
theorem dX10_standing_59 : decode cX10_standing 59 = .ok (.iinc 4 1, 3) := by decide +kernel
theorem dX10_standing_62 : decode cX10_standing 62 = .ok (.goto (-57), 3) := by decide +kernel
theorem dX10_standing_65 : decode cX10_standing 65 = .ok (.iload_n 3, 1) := by decide +kernel
theorem dX10_standing_66 : decode cX10_standing 66 = .ok (.ireturn, 1) := by decide +kernel
theorem dX10_sumOf_0 : decode cX10_sumOf 0 = .ok (.iconst 0, 1) := by decide +kernel
theorem dX10_sumOf_1 : decode cX10_sumOf 1 = .ok (.istore_n 3, 1) := by decide +kernel
theorem dX10_sumOf_2 : decode cX10_sumOf 2 = .ok (.iconst 0, 1) := by decide +kernel
theorem dX10_sumOf_3 : decode cX10_sumOf 3 = .ok (.istore 4, 2) := by decide +kernel
theorem dX10_sumOf_5 : decode cX10_sumOf 5 = .ok (.iload 4, 2) := by decide +kernel
theorem dX10_sumOf_7 : decode cX10_sumOf 7 = .ok (.iconst 4, 1) := by decide +kernel
theorem dX10_sumOf_8 : decode cX10_sumOf 8 = .ok (.if_icmp .ge 22, 3) := by decide +kernel
theorem dX10_sumOf_11 : decode cX10_sumOf 11 = .ok (.iload_n 3, 1) := by decide +kernel
theorem dX10_sumOf_12 : decode cX10_sumOf 12 = .ok (.aload_n 1, 1) := by decide +kernel
theorem dX10_sumOf_13 : decode cX10_sumOf 13 = .ok (.iconst 0, 1) := by decide +kernel
theorem dX10_sumOf_14 : decode cX10_sumOf 14 = .ok (.iconst 4, 1) := by decide +kernel
theorem dX10_sumOf_15 : decode cX10_sumOf 15 = .ok (.iload_n 2, 1) := by decide +kernel
theorem dX10_sumOf_16 : decode cX10_sumOf 16 = .ok (.imul, 1) := by decide +kernel
theorem dX10_sumOf_17 : decode cX10_sumOf 17 = .ok (.iadd, 1) := by decide +kernel
theorem dX10_sumOf_18 : decode cX10_sumOf 18 = .ok (.iload 4, 2) := by decide +kernel
theorem dX10_sumOf_20 : decode cX10_sumOf 20 = .ok (.iadd, 1) := by decide +kernel
theorem dX10_sumOf_21 : decode cX10_sumOf 21 = .ok (.iaload, 1) := by decide +kernel
theorem dX10_sumOf_22 : decode cX10_sumOf 22 = .ok (.iadd, 1) := by decide +kernel
theorem dX10_sumOf_23 : decode cX10_sumOf 23 = .ok (.istore_n 3, 1) := by decide +kernel
theorem dX10_sumOf_24 : decode cX10_sumOf 24 = .ok (.iinc 4 1, 3) := by decide +kernel
theorem dX10_sumOf_27 : decode cX10_sumOf 27 = .ok (.goto (-22), 3) := by decide +kernel
theorem dX10_sumOf_30 : decode cX10_sumOf 30 = .ok (.iload_n 3, 1) := by decide +kernel
theorem dX10_sumOf_31 : decode cX10_sumOf 31 = .ok (.ireturn, 1) := by decide +kernel
theorem dX10_grows_0 : decode cX10_grows 0 = .ok (.iload_n 1, 1) := by decide +kernel
theorem dX10_grows_1 : decode cX10_grows 1 = .ok (.iload_n 1, 1) := by decide +kernel
theorem dX10_grows_2 : decode cX10_grows 2 = .ok (.aload_n 0, 1) := by decide +kernel
theorem dX10_grows_3 : decode cX10_grows 3 = .ok (.getfield 7, 3) := by decide +kernel
theorem dX10_grows_6 : decode cX10_grows 6 = .ok (.iconst 1, 1) := by decide +kernel
theorem dX10_grows_7 : decode cX10_grows 7 = .ok (.iaload, 1) := by decide +kernel
theorem dX10_grows_8 : decode cX10_grows 8 = .ok (.imul, 1) := by decide +kernel
theorem dX10_grows_9 : decode cX10_grows 9 = .ok (.bipush 100, 2) := by decide +kernel
theorem dX10_grows_11 : decode cX10_grows 11 = .ok (.idiv, 1) := by decide +kernel
theorem dX10_grows_12 : decode cX10_grows 12 = .ok (.iadd, 1) := by decide +kernel
theorem dX10_grows_13 : decode cX10_grows 13 = .ok (.sipush 9999, 3) := by decide +kernel
theorem dX10_grows_16 : decode cX10_grows 16 = .ok (.invokestatic 150, 3) := by decide +kernel
theorem dX10_grows_19 : decode cX10_grows 19 = .ok (.ireturn, 1) := by decide +kernel
theorem dX10_sours_0 : decode cX10_sours 0 = .ok (.iconst 0, 1) := by decide +kernel
theorem dX10_sours_1 : decode cX10_sours 1 = .ok (.istore_n 2, 1) := by decide +kernel
theorem dX10_sours_2 : decode cX10_sours 2 = .ok (.iconst 0, 1) := by decide +kernel
theorem dX10_sours_3 : decode cX10_sours 3 = .ok (.istore_n 3, 1) := by decide +kernel
theorem dX10_sours_4 : decode cX10_sours 4 = .ok (.iload_n 3, 1) := by decide +kernel
theorem dX10_sours_5 : decode cX10_sours 5 = .ok (.aload_n 0, 1) := by decide +kernel
theorem dX10_sours_6 : decode cX10_sours 6 = .ok (.getfield 7, 3) := by decide +kernel
theorem dX10_sours_9 : decode cX10_sours 9 = .ok (.iconst 3, 1) := by decide +kernel
theorem dX10_sours_10 : decode cX10_sours 10 = .ok (.iaload, 1) := by decide +kernel
theorem dX10_sours_11 : decode cX10_sours 11 = .ok (.if_icmp .ge 95, 3) := by decide +kernel
theorem dX10_sours_14 : decode cX10_sours 14 = .ok (.iconst 0, 1) := by decide +kernel
theorem dX10_sours_15 : decode cX10_sours 15 = .ok (.istore 4, 2) := by decide +kernel
theorem dX10_sours_17 : decode cX10_sours 17 = .ok (.iconst 0, 1) := by decide +kernel
theorem dX10_sours_18 : decode cX10_sours 18 = .ok (.istore 5, 2) := by decide +kernel
theorem dX10_sours_20 : decode cX10_sours 20 = .ok (.iload 5, 2) := by decide +kernel
theorem dX10_sours_22 : decode cX10_sours 22 = .ok (.aload_n 0, 1) := by decide +kernel
theorem dX10_sours_23 : decode cX10_sours 23 = .ok (.getfield 7, 3) := by decide +kernel
theorem dX10_sours_26 : decode cX10_sours 26 = .ok (.iconst 4, 1) := by decide +kernel
theorem dX10_sours_27 : decode cX10_sours 27 = .ok (.iaload, 1) := by decide +kernel
theorem dX10_sours_28 : decode cX10_sours 28 = .ok (.if_icmp .ge 40, 3) := by decide +kernel
theorem dX10_sours_31 : decode cX10_sours 31 = .ok (.iload 4, 2) := by decide +kernel
theorem dX10_sours_33 : decode cX10_sours 33 = .ok (.aload_n 0, 1) := by decide +kernel
theorem dX10_sours_34 : decode cX10_sours 34 = .ok (.aload_n 1, 1) := by decide +kernel
theorem dX10_sours_35 : decode cX10_sours 35 = .ok (.iload 5, 2) := by decide +kernel
theorem dX10_sours_37 : decode cX10_sours 37 = .ok (.iload_n 3, 1) := by decide +kernel
theorem dX10_sours_38 : decode cX10_sours 38 = .ok (.invokevirtual 146, 3) := by decide +kernel
theorem dX10_sours_41 : decode cX10_sours 41 = .ok (.iconst 2, 1) := by decide +kernel
theorem dX10_sours_42 : decode cX10_sours 42 = .ok (.if_icmp .ne 16, 3) := by decide +kernel
theorem dX10_sours_45 : decode cX10_sours 45 = .ok (.aload_n 1, 1) := by decide +kernel
theorem dX10_sours_46 : decode cX10_sours 46 = .ok (.iconst 0, 1) := by decide +kernel
theorem dX10_sours_47 : decode cX10_sours 47 = .ok (.iconst 4, 1) := by decide +kernel
theorem dX10_sours_48 : decode cX10_sours 48 = .ok (.iload 5, 2) := by decide +kernel
theorem dX10_sours_50 : decode cX10_sours 50 = .ok (.imul, 1) := by decide +kernel
theorem dX10_sours_51 : decode cX10_sours 51 = .ok (.iadd, 1) := by decide +kernel
theorem dX10_sours_52 : decode cX10_sours 52 = .ok (.iload_n 3, 1) := by decide +kernel
theorem dX10_sours_53 : decode cX10_sours 53 = .ok (.iadd, 1) := by decide +kernel
theorem dX10_sours_54 : decode cX10_sours 54 = .ok (.iaload, 1) := by decide +kernel
theorem dX10_sours_55 : decode cX10_sours 55 = .ok (.goto 4, 3) := by decide +kernel
theorem dX10_sours_58 : decode cX10_sours 58 = .ok (.iconst 0, 1) := by decide +kernel
theorem dX10_sours_59 : decode cX10_sours 59 = .ok (.iadd, 1) := by decide +kernel
theorem dX10_sours_60 : decode cX10_sours 60 = .ok (.istore 4, 2) := by decide +kernel
theorem dX10_sours_62 : decode cX10_sours 62 = .ok (.iinc 5 1, 3) := by decide +kernel
theorem dX10_sours_65 : decode cX10_sours 65 = .ok (.goto (-45), 3) := by decide +kernel
theorem dX10_sours_68 : decode cX10_sours 68 = .ok (.iload_n 2, 1) := by decide +kernel
theorem dX10_sours_69 : decode cX10_sours 69 = .ok (.aload_n 1, 1) := by decide +kernel
theorem dX10_sours_70 : decode cX10_sours 70 = .ok (.bipush 52, 2) := by decide +kernel
theorem dX10_sours_72 : decode cX10_sours 72 = .ok (.iaload, 1) := by decide +kernel
theorem dX10_sours_73 : decode cX10_sours 73 = .ok (.iload_n 3, 1) := by decide +kernel
theorem dX10_sours_74 : decode cX10_sours 74 = .ok (.invokestatic 142, 3) := by decide +kernel
theorem dX10_sours_77 : decode cX10_sours 77 = .ok (.ifCond .ne 20, 3) := by decide +kernel
theorem dX10_sours_80 : decode cX10_sours 80 = .ok (.iload 4, 2) := by decide +kernel
theorem dX10_sours_82 : decode cX10_sours 82 = .ok (.aload_n 1, 1) := by decide +kernel
theorem dX10_sours_83 : decode cX10_sours 83 = .ok (.bipush 32, 2) := by decide +kernel
theorem dX10_sours_85 : decode cX10_sours 85 = .ok (.iload_n 3, 1) := by decide +kernel
theorem dX10_sours_86 : decode cX10_sours 86 = .ok (.iadd, 1) := by decide +kernel
theorem dX10_sours_87 : decode cX10_sours 87 = .ok (.iaload, 1) := by decide +kernel
theorem dX10_sours_88 : decode cX10_sours 88 = .ok (.if_icmp .le 9, 3) := by decide +kernel
theorem dX10_sours_91 : decode cX10_sours 91 = .ok (.iconst 1, 1) := by decide +kernel
theorem dX10_sours_92 : decode cX10_sours 92 = .ok (.iload_n 3, 1) := by decide +kernel
theorem dX10_sours_93 : decode cX10_sours 93 = .ok (.ishl, 1) := by decide +kernel
theorem dX10_sours_94 : decode cX10_sours 94 = .ok (.goto 4, 3) := by decide +kernel
theorem dX10_sours_97 : decode cX10_sours 97 = .ok (.iconst 0, 1) := by decide +kernel
theorem dX10_sours_98 : decode cX10_sours 98 = .ok (.ior, 1) := by decide +kernel
theorem dX10_sours_99 : decode cX10_sours 99 = .ok (.istore_n 2, 1) := by decide +kernel
theorem dX10_sours_100 : decode cX10_sours 100 = .ok (.iinc 3 1, 3) := by decide +kernel
theorem dX10_sours_103 : decode cX10_sours 103 = .ok (.goto (-99), 3) := by decide +kernel
theorem dX10_sours_106 : decode cX10_sours 106 = .ok (.iload_n 2, 1) := by decide +kernel
theorem dX10_sours_107 : decode cX10_sours 107 = .ok (.ireturn, 1) := by decide +kernel
theorem dX10_quarterGoes_0 : decode cX10_quarterGoes 0 = .ok (.iconst 0, 1) := by decide +kernel
theorem dX10_quarterGoes_1 : decode cX10_quarterGoes 1 = .ok (.istore_n 2, 1) := by decide +kernel
theorem dX10_quarterGoes_2 : decode cX10_quarterGoes 2 = .ok (.iload_n 2, 1) := by decide +kernel
theorem dX10_quarterGoes_3 : decode cX10_quarterGoes 3 = .ok (.bipush 32, 2) := by decide +kernel
theorem dX10_quarterGoes_5 : decode cX10_quarterGoes 5 = .ok (.if_icmp .ge 23, 3) := by decide +kernel
theorem dX10_quarterGoes_8 : decode cX10_quarterGoes 8 = .ok (.aload_n 1, 1) := by decide +kernel
theorem dX10_quarterGoes_9 : decode cX10_quarterGoes 9 = .ok (.iconst 0, 1) := by decide +kernel
theorem dX10_quarterGoes_10 : decode cX10_quarterGoes 10 = .ok (.iload_n 2, 1) := by decide +kernel
theorem dX10_quarterGoes_11 : decode cX10_quarterGoes 11 = .ok (.iadd, 1) := by decide +kernel
theorem dX10_quarterGoes_12 : decode cX10_quarterGoes 12 = .ok (.aload_n 0, 1) := by decide +kernel
theorem dX10_quarterGoes_13 : decode cX10_quarterGoes 13 = .ok (.aload_n 1, 1) := by decide +kernel
theorem dX10_quarterGoes_14 : decode cX10_quarterGoes 14 = .ok (.iconst 0, 1) := by decide +kernel
theorem dX10_quarterGoes_15 : decode cX10_quarterGoes 15 = .ok (.iload_n 2, 1) := by decide +kernel
theorem dX10_quarterGoes_16 : decode cX10_quarterGoes 16 = .ok (.iadd, 1) := by decide +kernel
theorem dX10_quarterGoes_17 : decode cX10_quarterGoes 17 = .ok (.iaload, 1) := by decide +kernel
theorem dX10_quarterGoes_18 : decode cX10_quarterGoes 18 = .ok (.invokevirtual 154, 3) := by decide +kernel
theorem dX10_quarterGoes_21 : decode cX10_quarterGoes 21 = .ok (.iastore, 1) := by decide +kernel
theorem dX10_quarterGoes_22 : decode cX10_quarterGoes 22 = .ok (.iinc 2 1, 3) := by decide +kernel
theorem dX10_quarterGoes_25 : decode cX10_quarterGoes 25 = .ok (.goto (-23), 3) := by decide +kernel
theorem dX10_quarterGoes_28 : decode cX10_quarterGoes 28 = .ok (.iconst 0, 1) := by decide +kernel
theorem dX10_quarterGoes_29 : decode cX10_quarterGoes 29 = .ok (.istore_n 2, 1) := by decide +kernel
theorem dX10_quarterGoes_30 : decode cX10_quarterGoes 30 = .ok (.iload_n 2, 1) := by decide +kernel
theorem dX10_quarterGoes_31 : decode cX10_quarterGoes 31 = .ok (.bipush 8, 2) := by decide +kernel
theorem dX10_quarterGoes_33 : decode cX10_quarterGoes 33 = .ok (.if_icmp .ge 16, 3) := by decide +kernel
theorem dX10_quarterGoes_36 : decode cX10_quarterGoes 36 = .ok (.aload_n 1, 1) := by decide +kernel
theorem dX10_quarterGoes_37 : decode cX10_quarterGoes 37 = .ok (.bipush 36, 2) := by decide +kernel
theorem dX10_quarterGoes_39 : decode cX10_quarterGoes 39 = .ok (.iload_n 2, 1) := by decide +kernel
theorem dX10_quarterGoes_40 : decode cX10_quarterGoes 40 = .ok (.iadd, 1) := by decide +kernel
theorem dX10_quarterGoes_41 : decode cX10_quarterGoes 41 = .ok (.iconst 0, 1) := by decide +kernel
theorem dX10_quarterGoes_42 : decode cX10_quarterGoes 42 = .ok (.iastore, 1) := by decide +kernel
theorem dX10_quarterGoes_43 : decode cX10_quarterGoes 43 = .ok (.iinc 2 1, 3) := by decide +kernel
theorem dX10_quarterGoes_46 : decode cX10_quarterGoes 46 = .ok (.goto (-16), 3) := by decide +kernel
theorem dX10_quarterGoes_49 : decode cX10_quarterGoes 49 = .ok (.aload_n 1, 1) := by decide +kernel
theorem dX10_quarterGoes_50 : decode cX10_quarterGoes 50 = .ok (.bipush 52, 2) := by decide +kernel
theorem dX10_quarterGoes_52 : decode cX10_quarterGoes 52 = .ok (.dup2, 1) := by decide +kernel
theorem dX10_quarterGoes_53 : decode cX10_quarterGoes 53 = .ok (.iaload, 1) := by decide +kernel
theorem dX10_quarterGoes_54 : decode cX10_quarterGoes 54 = .ok (.aload_n 0, 1) := by decide +kernel
theorem dX10_quarterGoes_55 : decode cX10_quarterGoes 55 = .ok (.aload_n 1, 1) := by decide +kernel
theorem dX10_quarterGoes_56 : decode cX10_quarterGoes 56 = .ok (.invokevirtual 158, 3) := by decide +kernel
theorem dX10_quarterGoes_59 : decode cX10_quarterGoes 59 = .ok (.ior, 1) := by decide +kernel
theorem dX10_quarterGoes_60 : decode cX10_quarterGoes 60 = .ok (.iastore, 1) := by decide +kernel
theorem dX10_quarterGoes_61 : decode cX10_quarterGoes 61 = .ok (.iconst 0, 1) := by decide +kernel
theorem dX10_quarterGoes_62 : decode cX10_quarterGoes 62 = .ok (.istore_n 2, 1) := by decide +kernel
theorem dX10_quarterGoes_63 : decode cX10_quarterGoes 63 = .ok (.iload_n 2, 1) := by decide +kernel
theorem dX10_quarterGoes_64 : decode cX10_quarterGoes 64 = .ok (.bipush 32, 2) := by decide +kernel
theorem dX10_quarterGoes_66 : decode cX10_quarterGoes 66 = .ok (.if_icmp .ge 36, 3) := by decide +kernel
theorem dX10_quarterGoes_69 : decode cX10_quarterGoes 69 = .ok (.aload_n 1, 1) := by decide +kernel
theorem dX10_quarterGoes_70 : decode cX10_quarterGoes 70 = .ok (.iconst 0, 1) := by decide +kernel
theorem dX10_quarterGoes_71 : decode cX10_quarterGoes 71 = .ok (.iload_n 2, 1) := by decide +kernel
theorem dX10_quarterGoes_72 : decode cX10_quarterGoes 72 = .ok (.iadd, 1) := by decide +kernel
theorem dX10_quarterGoes_73 : decode cX10_quarterGoes 73 = .ok (.aload_n 1, 1) := by decide +kernel
theorem dX10_quarterGoes_74 : decode cX10_quarterGoes 74 = .ok (.bipush 52, 2) := by decide +kernel
theorem dX10_quarterGoes_76 : decode cX10_quarterGoes 76 = .ok (.iaload, 1) := by decide +kernel
theorem dX10_quarterGoes_77 : decode cX10_quarterGoes 77 = .ok (.iload_n 2, 1) := by decide +kernel
theorem dX10_quarterGoes_78 : decode cX10_quarterGoes 78 = .ok (.iconst 4, 1) := by decide +kernel
theorem dX10_quarterGoes_79 : decode cX10_quarterGoes 79 = .ok (.irem, 1) := by decide +kernel
theorem dX10_quarterGoes_80 : decode cX10_quarterGoes 80 = .ok (.invokestatic 142, 3) := by decide +kernel
theorem dX10_quarterGoes_83 : decode cX10_quarterGoes 83 = .ok (.ifCond .eq 7, 3) := by decide +kernel
theorem dX10_quarterGoes_86 : decode cX10_quarterGoes 86 = .ok (.iconst 0, 1) := by decide +kernel
theorem dX10_quarterGoes_87 : decode cX10_quarterGoes 87 = .ok (.goto 8, 3) := by decide +kernel
theorem dX10_quarterGoes_90 : decode cX10_quarterGoes 90 = .ok (.aload_n 1, 1) := by decide +kernel
theorem dX10_quarterGoes_91 : decode cX10_quarterGoes 91 = .ok (.iconst 0, 1) := by decide +kernel
theorem dX10_quarterGoes_92 : decode cX10_quarterGoes 92 = .ok (.iload_n 2, 1) := by decide +kernel
theorem dX10_quarterGoes_93 : decode cX10_quarterGoes 93 = .ok (.iadd, 1) := by decide +kernel
theorem dX10_quarterGoes_94 : decode cX10_quarterGoes 94 = .ok (.iaload, 1) := by decide +kernel
theorem dX10_quarterGoes_95 : decode cX10_quarterGoes 95 = .ok (.iastore, 1) := by decide +kernel
theorem dX10_quarterGoes_96 : decode cX10_quarterGoes 96 = .ok (.iinc 2 1, 3) := by decide +kernel
theorem dX10_quarterGoes_99 : decode cX10_quarterGoes 99 = .ok (.goto (-36), 3) := by decide +kernel
theorem dX10_quarterGoes_102 : decode cX10_quarterGoes 102 = .ok (.aload_n 1, 1) := by decide +kernel
theorem dX10_quarterGoes_103 : decode cX10_quarterGoes 103 = .ok (.bipush 53, 2) := by decide +kernel
theorem dX10_quarterGoes_105 : decode cX10_quarterGoes 105 = .ok (.dup2, 1) := by decide +kernel
theorem dX10_quarterGoes_106 : decode cX10_quarterGoes 106 = .ok (.iaload, 1) := by decide +kernel
theorem dX10_quarterGoes_107 : decode cX10_quarterGoes 107 = .ok (.iconst 1, 1) := by decide +kernel
theorem dX10_quarterGoes_108 : decode cX10_quarterGoes 108 = .ok (.iadd, 1) := by decide +kernel
theorem dX10_quarterGoes_109 : decode cX10_quarterGoes 109 = .ok (.iastore, 1) := by decide +kernel
theorem dX10_quarterGoes_110 : decode cX10_quarterGoes 110 = .ok (.return_, 1) := by decide +kernel
theorem dX10_weds_0 : decode cX10_weds 0 = .ok (.iconst 0, 1) := by decide +kernel
theorem dX10_weds_1 : decode cX10_weds 1 = .ok (.istore 4, 2) := by decide +kernel
theorem dX10_weds_3 : decode cX10_weds 3 = .ok (.iload 4, 2) := by decide +kernel
theorem dX10_weds_5 : decode cX10_weds 5 = .ok (.iconst 4, 1) := by decide +kernel
theorem dX10_weds_6 : decode cX10_weds 6 = .ok (.if_icmp .ge 57, 3) := by decide +kernel
theorem dX10_weds_9 : decode cX10_weds 9 = .ok (.aload_n 1, 1) := by decide +kernel
theorem dX10_weds_10 : decode cX10_weds 10 = .ok (.iconst 0, 1) := by decide +kernel
theorem dX10_weds_11 : decode cX10_weds 11 = .ok (.iconst 4, 1) := by decide +kernel
theorem dX10_weds_12 : decode cX10_weds 12 = .ok (.iload_n 2, 1) := by decide +kernel
theorem dX10_weds_13 : decode cX10_weds 13 = .ok (.imul, 1) := by decide +kernel
theorem dX10_weds_14 : decode cX10_weds 14 = .ok (.iadd, 1) := by decide +kernel
theorem dX10_weds_15 : decode cX10_weds 15 = .ok (.iload 4, 2) := by decide +kernel
theorem dX10_weds_17 : decode cX10_weds 17 = .ok (.iadd, 1) := by decide +kernel
theorem dX10_weds_18 : decode cX10_weds 18 = .ok (.aload_n 1, 1) := by decide +kernel
theorem dX10_weds_19 : decode cX10_weds 19 = .ok (.iconst 0, 1) := by decide +kernel
theorem dX10_weds_20 : decode cX10_weds 20 = .ok (.iconst 4, 1) := by decide +kernel
theorem dX10_weds_21 : decode cX10_weds 21 = .ok (.iload_n 2, 1) := by decide +kernel
theorem dX10_weds_22 : decode cX10_weds 22 = .ok (.imul, 1) := by decide +kernel
theorem dX10_weds_23 : decode cX10_weds 23 = .ok (.iadd, 1) := by decide +kernel
theorem dX10_weds_24 : decode cX10_weds 24 = .ok (.iload 4, 2) := by decide +kernel
theorem dX10_weds_26 : decode cX10_weds 26 = .ok (.iadd, 1) := by decide +kernel
theorem dX10_weds_27 : decode cX10_weds 27 = .ok (.iaload, 1) := by decide +kernel
theorem dX10_weds_28 : decode cX10_weds 28 = .ok (.aload_n 1, 1) := by decide +kernel
theorem dX10_weds_29 : decode cX10_weds 29 = .ok (.iconst 0, 1) := by decide +kernel
theorem dX10_weds_30 : decode cX10_weds 30 = .ok (.iconst 4, 1) := by decide +kernel
theorem dX10_weds_31 : decode cX10_weds 31 = .ok (.iload_n 3, 1) := by decide +kernel
theorem dX10_weds_32 : decode cX10_weds 32 = .ok (.imul, 1) := by decide +kernel
theorem dX10_weds_33 : decode cX10_weds 33 = .ok (.iadd, 1) := by decide +kernel
theorem dX10_weds_34 : decode cX10_weds 34 = .ok (.iload 4, 2) := by decide +kernel
theorem dX10_weds_36 : decode cX10_weds 36 = .ok (.iadd, 1) := by decide +kernel
theorem dX10_weds_37 : decode cX10_weds 37 = .ok (.iaload, 1) := by decide +kernel
theorem dX10_weds_38 : decode cX10_weds 38 = .ok (.iadd, 1) := by decide +kernel
theorem dX10_weds_39 : decode cX10_weds 39 = .ok (.sipush 9999, 3) := by decide +kernel
theorem dX10_weds_42 : decode cX10_weds 42 = .ok (.invokestatic 150, 3) := by decide +kernel
theorem dX10_weds_45 : decode cX10_weds 45 = .ok (.iastore, 1) := by decide +kernel
theorem dX10_weds_46 : decode cX10_weds 46 = .ok (.aload_n 1, 1) := by decide +kernel
theorem dX10_weds_47 : decode cX10_weds 47 = .ok (.iconst 0, 1) := by decide +kernel
theorem dX10_weds_48 : decode cX10_weds 48 = .ok (.iconst 4, 1) := by decide +kernel
theorem dX10_weds_49 : decode cX10_weds 49 = .ok (.iload_n 3, 1) := by decide +kernel
theorem dX10_weds_50 : decode cX10_weds 50 = .ok (.imul, 1) := by decide +kernel
theorem dX10_weds_51 : decode cX10_weds 51 = .ok (.iadd, 1) := by decide +kernel
theorem dX10_weds_52 : decode cX10_weds 52 = .ok (.iload 4, 2) := by decide +kernel
theorem dX10_weds_54 : decode cX10_weds 54 = .ok (.iadd, 1) := by decide +kernel
theorem dX10_weds_55 : decode cX10_weds 55 = .ok (.iconst 0, 1) := by decide +kernel
theorem dX10_weds_56 : decode cX10_weds 56 = .ok (.iastore, 1) := by decide +kernel
theorem dX10_weds_57 : decode cX10_weds 57 = .ok (.iinc 4 1, 3) := by decide +kernel
theorem dX10_weds_60 : decode cX10_weds 60 = .ok (.goto (-57), 3) := by decide +kernel
theorem dX10_weds_63 : decode cX10_weds 63 = .ok (.aload_n 1, 1) := by decide +kernel
theorem dX10_weds_64 : decode cX10_weds 64 = .ok (.bipush 36, 2) := by decide +kernel
theorem dX10_weds_66 : decode cX10_weds 66 = .ok (.iload_n 2, 1) := by decide +kernel
theorem dX10_weds_67 : decode cX10_weds 67 = .ok (.iadd, 1) := by decide +kernel
theorem dX10_weds_68 : decode cX10_weds 68 = .ok (.dup2, 1) := by decide +kernel
theorem dX10_weds_69 : decode cX10_weds 69 = .ok (.iaload, 1) := by decide +kernel
theorem dX10_weds_70 : decode cX10_weds 70 = .ok (.aload_n 1, 1) := by decide +kernel
theorem dX10_weds_71 : decode cX10_weds 71 = .ok (.bipush 36, 2) := by decide +kernel
theorem dX10_weds_73 : decode cX10_weds 73 = .ok (.iload_n 3, 1) := by decide +kernel
theorem dX10_weds_74 : decode cX10_weds 74 = .ok (.iadd, 1) := by decide +kernel
theorem dX10_weds_75 : decode cX10_weds 75 = .ok (.iaload, 1) := by decide +kernel
theorem dX10_weds_76 : decode cX10_weds 76 = .ok (.ior, 1) := by decide +kernel
theorem dX10_weds_77 : decode cX10_weds 77 = .ok (.iastore, 1) := by decide +kernel
theorem dX10_weds_78 : decode cX10_weds 78 = .ok (.aload_n 1, 1) := by decide +kernel
theorem dX10_weds_79 : decode cX10_weds 79 = .ok (.bipush 36, 2) := by decide +kernel
theorem dX10_weds_81 : decode cX10_weds 81 = .ok (.iload_n 3, 1) := by decide +kernel
theorem dX10_weds_82 : decode cX10_weds 82 = .ok (.iadd, 1) := by decide +kernel
theorem dX10_weds_83 : decode cX10_weds 83 = .ok (.iconst 0, 1) := by decide +kernel
theorem dX10_weds_84 : decode cX10_weds 84 = .ok (.iastore, 1) := by decide +kernel
theorem dX10_weds_85 : decode cX10_weds 85 = .ok (.aload_n 1, 1) := by decide +kernel
theorem dX10_weds_86 : decode cX10_weds 86 = .ok (.bipush 44, 2) := by decide +kernel
theorem dX10_weds_88 : decode cX10_weds 88 = .ok (.iload_n 2, 1) := by decide +kernel
theorem dX10_weds_89 : decode cX10_weds 89 = .ok (.iadd, 1) := by decide +kernel
theorem dX10_weds_90 : decode cX10_weds 90 = .ok (.iload_n 3, 1) := by decide +kernel
theorem dX10_weds_91 : decode cX10_weds 91 = .ok (.iastore, 1) := by decide +kernel
theorem dX10_weds_92 : decode cX10_weds 92 = .ok (.aload_n 1, 1) := by decide +kernel
theorem dX10_weds_93 : decode cX10_weds 93 = .ok (.bipush 44, 2) := by decide +kernel
theorem dX10_weds_95 : decode cX10_weds 95 = .ok (.iload_n 3, 1) := by decide +kernel
theorem dX10_weds_96 : decode cX10_weds 96 = .ok (.iadd, 1) := by decide +kernel
theorem dX10_weds_97 : decode cX10_weds 97 = .ok (.iload_n 2, 1) := by decide +kernel
theorem dX10_weds_98 : decode cX10_weds 98 = .ok (.iastore, 1) := by decide +kernel
theorem dX10_weds_99 : decode cX10_weds 99 = .ok (.return_, 1) := by decide +kernel
theorem dX10_wedOnes_0 : decode cX10_wedOnes 0 = .ok (.iconst 0, 1) := by decide +kernel
theorem dX10_wedOnes_1 : decode cX10_wedOnes 1 = .ok (.istore_n 1, 1) := by decide +kernel
theorem dX10_wedOnes_2 : decode cX10_wedOnes 2 = .ok (.iconst 0, 1) := by decide +kernel
theorem dX10_wedOnes_3 : decode cX10_wedOnes 3 = .ok (.istore_n 2, 1) := by decide +kernel
theorem dX10_wedOnes_4 : decode cX10_wedOnes 4 = .ok (.iload_n 2, 1) := by decide +kernel
theorem dX10_wedOnes_5 : decode cX10_wedOnes 5 = .ok (.bipush 8, 2) := by decide +kernel
theorem dX10_wedOnes_7 : decode cX10_wedOnes 7 = .ok (.if_icmp .ge 32, 3) := by decide +kernel
theorem dX10_wedOnes_10 : decode cX10_wedOnes 10 = .ok (.iload_n 1, 1) := by decide +kernel
theorem dX10_wedOnes_11 : decode cX10_wedOnes 11 = .ok (.aload_n 0, 1) := by decide +kernel
theorem dX10_wedOnes_12 : decode cX10_wedOnes 12 = .ok (.getfield 16, 3) := by decide +kernel
theorem dX10_wedOnes_15 : decode cX10_wedOnes 15 = .ok (.bipush 44, 2) := by decide +kernel
theorem dX10_wedOnes_17 : decode cX10_wedOnes 17 = .ok (.iload_n 2, 1) := by decide +kernel
theorem dX10_wedOnes_18 : decode cX10_wedOnes 18 = .ok (.iadd, 1) := by decide +kernel
theorem dX10_wedOnes_19 : decode cX10_wedOnes 19 = .ok (.iaload, 1) := by decide +kernel
theorem dX10_wedOnes_20 : decode cX10_wedOnes 20 = .ok (.iconst (-1), 1) := by decide +kernel
theorem dX10_wedOnes_21 : decode cX10_wedOnes 21 = .ok (.if_icmp .ne 7, 3) := by decide +kernel
theorem dX10_wedOnes_24 : decode cX10_wedOnes 24 = .ok (.iconst 0, 1) := by decide +kernel
theorem dX10_wedOnes_25 : decode cX10_wedOnes 25 = .ok (.goto 6, 3) := by decide +kernel
theorem dX10_wedOnes_28 : decode cX10_wedOnes 28 = .ok (.iconst 1, 1) := by decide +kernel
theorem dX10_wedOnes_29 : decode cX10_wedOnes 29 = .ok (.iload_n 2, 1) := by decide +kernel
theorem dX10_wedOnes_30 : decode cX10_wedOnes 30 = .ok (.ishl, 1) := by decide +kernel
theorem dX10_wedOnes_31 : decode cX10_wedOnes 31 = .ok (.ior, 1) := by decide +kernel
theorem dX10_wedOnes_32 : decode cX10_wedOnes 32 = .ok (.istore_n 1, 1) := by decide +kernel
theorem dX10_wedOnes_33 : decode cX10_wedOnes 33 = .ok (.iinc 2 1, 3) := by decide +kernel
theorem dX10_wedOnes_36 : decode cX10_wedOnes 36 = .ok (.goto (-32), 3) := by decide +kernel
theorem dX10_wedOnes_39 : decode cX10_wedOnes 39 = .ok (.iload_n 1, 1) := by decide +kernel
theorem dX10_wedOnes_40 : decode cX10_wedOnes 40 = .ok (.ireturn, 1) := by decide +kernel
theorem dX10_owedInAll_0 : decode cX10_owedInAll 0 = .ok (.iconst 0, 1) := by decide +kernel
theorem dX10_owedInAll_1 : decode cX10_owedInAll 1 = .ok (.istore_n 1, 1) := by decide +kernel
theorem dX10_owedInAll_2 : decode cX10_owedInAll 2 = .ok (.iconst 0, 1) := by decide +kernel
theorem dX10_owedInAll_3 : decode cX10_owedInAll 3 = .ok (.istore_n 2, 1) := by decide +kernel
theorem dX10_owedInAll_4 : decode cX10_owedInAll 4 = .ok (.iload_n 2, 1) := by decide +kernel
theorem dX10_owedInAll_5 : decode cX10_owedInAll 5 = .ok (.bipush 8, 2) := by decide +kernel
theorem dX10_owedInAll_7 : decode cX10_owedInAll 7 = .ok (.if_icmp .ge 21, 3) := by decide +kernel
theorem dX10_owedInAll_10 : decode cX10_owedInAll 10 = .ok (.iload_n 1, 1) := by decide +kernel
theorem dX10_owedInAll_11 : decode cX10_owedInAll 11 = .ok (.aload_n 0, 1) := by decide +kernel
theorem dX10_owedInAll_12 : decode cX10_owedInAll 12 = .ok (.aload_n 0, 1) := by decide +kernel
theorem dX10_owedInAll_13 : decode cX10_owedInAll 13 = .ok (.getfield 16, 3) := by decide +kernel
theorem dX10_owedInAll_16 : decode cX10_owedInAll 16 = .ok (.iload_n 2, 1) := by decide +kernel
theorem dX10_owedInAll_17 : decode cX10_owedInAll 17 = .ok (.invokevirtual 162, 3) := by decide +kernel
theorem dX10_owedInAll_20 : decode cX10_owedInAll 20 = .ok (.iadd, 1) := by decide +kernel
theorem dX10_owedInAll_21 : decode cX10_owedInAll 21 = .ok (.istore_n 1, 1) := by decide +kernel
theorem dX10_owedInAll_22 : decode cX10_owedInAll 22 = .ok (.iinc 2 1, 3) := by decide +kernel
theorem dX10_owedInAll_25 : decode cX10_owedInAll 25 = .ok (.goto (-21), 3) := by decide +kernel
theorem dX10_owedInAll_28 : decode cX10_owedInAll 28 = .ok (.iload_n 1, 1) := by decide +kernel
theorem dX10_owedInAll_29 : decode cX10_owedInAll 29 = .ok (.ireturn, 1) := by decide +kernel
theorem dX10_told_0 : decode cX10_told 0 = .ok (.iload_n 1, 1) := by decide +kernel
theorem dX10_told_1 : decode cX10_told 1 = .ok (.tableswitch 132 0 13 #[71, 71, 71, 71, 71, 78, 83, 91, 99, 104, 112, 117, 122, 127], 71) := by decide +kernel
theorem dX10_told_72 : decode cX10_told 72 = .ok (.aload_n 0, 1) := by decide +kernel
theorem dX10_told_73 : decode cX10_told 73 = .ok (.getfield 7, 3) := by decide +kernel
theorem dX10_told_76 : decode cX10_told 76 = .ok (.iload_n 1, 1) := by decide +kernel
theorem dX10_told_77 : decode cX10_told 77 = .ok (.iaload, 1) := by decide +kernel
theorem dX10_told_78 : decode cX10_told 78 = .ok (.ireturn, 1) := by decide +kernel
theorem dX10_told_79 : decode cX10_told 79 = .ok (.aload_n 0, 1) := by decide +kernel
theorem dX10_told_80 : decode cX10_told 80 = .ok (.getfield 81, 3) := by decide +kernel
theorem dX10_told_83 : decode cX10_told 83 = .ok (.ireturn, 1) := by decide +kernel
theorem dX10_told_84 : decode cX10_told 84 = .ok (.aload_n 0, 1) := by decide +kernel
theorem dX10_told_85 : decode cX10_told 85 = .ok (.getfield 16, 3) := by decide +kernel
theorem dX10_told_88 : decode cX10_told 88 = .ok (.bipush 53, 2) := by decide +kernel
theorem dX10_told_90 : decode cX10_told 90 = .ok (.iaload, 1) := by decide +kernel
theorem dX10_told_91 : decode cX10_told 91 = .ok (.ireturn, 1) := by decide +kernel
theorem dX10_told_92 : decode cX10_told 92 = .ok (.aload_n 0, 1) := by decide +kernel
theorem dX10_told_93 : decode cX10_told 93 = .ok (.getfield 7, 3) := by decide +kernel
theorem dX10_told_96 : decode cX10_told 96 = .ok (.bipush 21, 2) := by decide +kernel
theorem dX10_told_98 : decode cX10_told 98 = .ok (.iaload, 1) := by decide +kernel
theorem dX10_told_99 : decode cX10_told 99 = .ok (.ireturn, 1) := by decide +kernel
theorem dX10_told_100 : decode cX10_told 100 = .ok (.aload_n 0, 1) := by decide +kernel
theorem dX10_told_101 : decode cX10_told 101 = .ok (.invokevirtual 166, 3) := by decide +kernel
theorem dX10_told_104 : decode cX10_told 104 = .ok (.ireturn, 1) := by decide +kernel
theorem dX10_told_105 : decode cX10_told 105 = .ok (.aload_n 0, 1) := by decide +kernel
theorem dX10_told_106 : decode cX10_told 106 = .ok (.getfield 16, 3) := by decide +kernel
theorem dX10_told_109 : decode cX10_told 109 = .ok (.bipush 52, 2) := by decide +kernel
theorem dX10_told_111 : decode cX10_told 111 = .ok (.iaload, 1) := by decide +kernel
theorem dX10_told_112 : decode cX10_told 112 = .ok (.ireturn, 1) := by decide +kernel
theorem dX10_told_113 : decode cX10_told 113 = .ok (.aload_n 0, 1) := by decide +kernel
theorem dX10_told_114 : decode cX10_told 114 = .ok (.invokevirtual 169, 3) := by decide +kernel
theorem dX10_told_117 : decode cX10_told 117 = .ok (.ireturn, 1) := by decide +kernel
theorem dX10_told_118 : decode cX10_told 118 = .ok (.aload_n 0, 1) := by decide +kernel
theorem dX10_told_119 : decode cX10_told 119 = .ok (.getfield 72, 3) := by decide +kernel
theorem dX10_told_122 : decode cX10_told 122 = .ok (.ireturn, 1) := by decide +kernel
theorem dX10_told_123 : decode cX10_told 123 = .ok (.aload_n 0, 1) := by decide +kernel
theorem dX10_told_124 : decode cX10_told 124 = .ok (.getfield 75, 3) := by decide +kernel
theorem dX10_told_127 : decode cX10_told 127 = .ok (.ireturn, 1) := by decide +kernel
theorem dX10_told_128 : decode cX10_told 128 = .ok (.aload_n 0, 1) := by decide +kernel
theorem dX10_told_129 : decode cX10_told 129 = .ok (.getfield 69, 3) := by decide +kernel
theorem dX10_told_132 : decode cX10_told 132 = .ok (.ireturn, 1) := by decide +kernel
theorem dX10_told_133 : decode cX10_told 133 = .ok (.ldc 80, 2) := by decide +kernel
theorem dX10_told_135 : decode cX10_told 135 = .ok (.ireturn, 1) := by decide +kernel
theorem dX10_whoAre_0 : decode cX10_whoAre 0 = .ok (.iconst 0, 1) := by decide +kernel
theorem dX10_whoAre_1 : decode cX10_whoAre 1 = .ok (.istore_n 3, 1) := by decide +kernel
theorem dX10_whoAre_2 : decode cX10_whoAre 2 = .ok (.iconst 0, 1) := by decide +kernel
theorem dX10_whoAre_3 : decode cX10_whoAre 3 = .ok (.istore 4, 2) := by decide +kernel
theorem dX10_whoAre_5 : decode cX10_whoAre 5 = .ok (.iload 4, 2) := by decide +kernel
theorem dX10_whoAre_7 : decode cX10_whoAre 7 = .ok (.aload_n 0, 1) := by decide +kernel
theorem dX10_whoAre_8 : decode cX10_whoAre 8 = .ok (.getfield 7, 3) := by decide +kernel
theorem dX10_whoAre_11 : decode cX10_whoAre 11 = .ok (.iconst 4, 1) := by decide +kernel
theorem dX10_whoAre_12 : decode cX10_whoAre 12 = .ok (.iaload, 1) := by decide +kernel
theorem dX10_whoAre_13 : decode cX10_whoAre 13 = .ok (.if_icmp .ge 35, 3) := by decide +kernel
theorem dX10_whoAre_16 : decode cX10_whoAre 16 = .ok (.iload_n 3, 1) := by decide +kernel
theorem dX10_whoAre_17 : decode cX10_whoAre 17 = .ok (.aload_n 0, 1) := by decide +kernel
theorem dX10_whoAre_18 : decode cX10_whoAre 18 = .ok (.aload_n 0, 1) := by decide +kernel
theorem dX10_whoAre_19 : decode cX10_whoAre 19 = .ok (.getfield 16, 3) := by decide +kernel
theorem dX10_whoAre_22 : decode cX10_whoAre 22 = .ok (.iload 4, 2) := by decide +kernel
theorem dX10_whoAre_24 : decode cX10_whoAre 24 = .ok (.iload_n 1, 1) := by decide +kernel
theorem dX10_whoAre_25 : decode cX10_whoAre 25 = .ok (.invokevirtual 146, 3) := by decide +kernel
theorem dX10_whoAre_28 : decode cX10_whoAre 28 = .ok (.iload_n 2, 1) := by decide +kernel
theorem dX10_whoAre_29 : decode cX10_whoAre 29 = .ok (.if_icmp .ne 10, 3) := by decide +kernel
theorem dX10_whoAre_32 : decode cX10_whoAre 32 = .ok (.iconst 1, 1) := by decide +kernel
theorem dX10_whoAre_33 : decode cX10_whoAre 33 = .ok (.iload 4, 2) := by decide +kernel
theorem dX10_whoAre_35 : decode cX10_whoAre 35 = .ok (.ishl, 1) := by decide +kernel
theorem dX10_whoAre_36 : decode cX10_whoAre 36 = .ok (.goto 4, 3) := by decide +kernel
theorem dX10_whoAre_39 : decode cX10_whoAre 39 = .ok (.iconst 0, 1) := by decide +kernel
theorem dX10_whoAre_40 : decode cX10_whoAre 40 = .ok (.ior, 1) := by decide +kernel
theorem dX10_whoAre_41 : decode cX10_whoAre 41 = .ok (.istore_n 3, 1) := by decide +kernel
theorem dX10_whoAre_42 : decode cX10_whoAre 42 = .ok (.iinc 4 1, 3) := by decide +kernel
theorem dX10_whoAre_45 : decode cX10_whoAre 45 = .ok (.goto (-40), 3) := by decide +kernel
theorem dX10_whoAre_48 : decode cX10_whoAre 48 = .ok (.iload_n 3, 1) := by decide +kernel
theorem dX10_whoAre_49 : decode cX10_whoAre 49 = .ok (.ireturn, 1) := by decide +kernel
theorem dX10_creditor_0 : decode cX10_creditor 0 = .ok (.aload_n 0, 1) := by decide +kernel
theorem dX10_creditor_1 : decode cX10_creditor 1 = .ok (.iload_n 1, 1) := by decide +kernel
theorem dX10_creditor_2 : decode cX10_creditor 2 = .ok (.invokevirtual 172, 3) := by decide +kernel
theorem dX10_creditor_5 : decode cX10_creditor 5 = .ok (.ifCond .ne 6, 3) := by decide +kernel
theorem dX10_creditor_8 : decode cX10_creditor 8 = .ok (.ldc 175, 2) := by decide +kernel
theorem dX10_creditor_10 : decode cX10_creditor 10 = .ok (.ireturn, 1) := by decide +kernel
theorem dX10_creditor_11 : decode cX10_creditor 11 = .ok (.iload_n 2, 1) := by decide +kernel
theorem dX10_creditor_12 : decode cX10_creditor 12 = .ok (.tableswitch 80 0 5 #[40, 50, 50, 50, 66, 73], 40) := by decide +kernel
theorem dX10_creditor_52 : decode cX10_creditor 52 = .ok (.aload_n 0, 1) := by decide +kernel
theorem dX10_creditor_53 : decode cX10_creditor 53 = .ok (.getfield 16, 3) := by decide +kernel
theorem dX10_creditor_56 : decode cX10_creditor 56 = .ok (.bipush 32, 2) := by decide +kernel
theorem dX10_creditor_58 : decode cX10_creditor 58 = .ok (.iload_n 1, 1) := by decide +kernel
theorem dX10_creditor_59 : decode cX10_creditor 59 = .ok (.iadd, 1) := by decide +kernel
theorem dX10_creditor_60 : decode cX10_creditor 60 = .ok (.iaload, 1) := by decide +kernel
theorem dX10_creditor_61 : decode cX10_creditor 61 = .ok (.ireturn, 1) := by decide +kernel
theorem dX10_creditor_62 : decode cX10_creditor 62 = .ok (.aload_n 0, 1) := by decide +kernel
theorem dX10_creditor_63 : decode cX10_creditor 63 = .ok (.getfield 7, 3) := by decide +kernel
theorem dX10_creditor_66 : decode cX10_creditor 66 = .ok (.bipush 9, 2) := by decide +kernel
theorem dX10_creditor_68 : decode cX10_creditor 68 = .ok (.iconst 4, 1) := by decide +kernel
theorem dX10_creditor_69 : decode cX10_creditor 69 = .ok (.iload_n 2, 1) := by decide +kernel
theorem dX10_creditor_70 : decode cX10_creditor 70 = .ok (.iconst 1, 1) := by decide +kernel
theorem dX10_creditor_71 : decode cX10_creditor 71 = .ok (.isub, 1) := by decide +kernel
theorem dX10_creditor_72 : decode cX10_creditor 72 = .ok (.imul, 1) := by decide +kernel
theorem dX10_creditor_73 : decode cX10_creditor 73 = .ok (.iadd, 1) := by decide +kernel
theorem dX10_creditor_74 : decode cX10_creditor 74 = .ok (.iload_n 1, 1) := by decide +kernel
theorem dX10_creditor_75 : decode cX10_creditor 75 = .ok (.iadd, 1) := by decide +kernel
theorem dX10_creditor_76 : decode cX10_creditor 76 = .ok (.iaload, 1) := by decide +kernel
theorem dX10_creditor_77 : decode cX10_creditor 77 = .ok (.ireturn, 1) := by decide +kernel
theorem dX10_creditor_78 : decode cX10_creditor 78 = .ok (.aload_n 0, 1) := by decide +kernel
theorem dX10_creditor_79 : decode cX10_creditor 79 = .ok (.iload_n 1, 1) := by decide +kernel
theorem dX10_creditor_80 : decode cX10_creditor 80 = .ok (.iconst 1, 1) := by decide +kernel
theorem dX10_creditor_81 : decode cX10_creditor 81 = .ok (.invokevirtual 176, 3) := by decide +kernel
theorem dX10_creditor_84 : decode cX10_creditor 84 = .ok (.ireturn, 1) := by decide +kernel
theorem dX10_creditor_85 : decode cX10_creditor 85 = .ok (.aload_n 0, 1) := by decide +kernel
theorem dX10_creditor_86 : decode cX10_creditor 86 = .ok (.iload_n 1, 1) := by decide +kernel
theorem dX10_creditor_87 : decode cX10_creditor 87 = .ok (.iconst 2, 1) := by decide +kernel
theorem dX10_creditor_88 : decode cX10_creditor 88 = .ok (.invokevirtual 176, 3) := by decide +kernel
theorem dX10_creditor_91 : decode cX10_creditor 91 = .ok (.ireturn, 1) := by decide +kernel
theorem dX10_creditor_92 : decode cX10_creditor 92 = .ok (.ldc 80, 2) := by decide +kernel
theorem dX10_creditor_94 : decode cX10_creditor 94 = .ok (.ireturn, 1) := by decide +kernel
theorem dX10_person_0 : decode cX10_person 0 = .ok (.aload_n 0, 1) := by decide +kernel
theorem dX10_person_1 : decode cX10_person 1 = .ok (.iload_n 1, 1) := by decide +kernel
theorem dX10_person_2 : decode cX10_person 2 = .ok (.invokevirtual 139, 3) := by decide +kernel
theorem dX10_person_5 : decode cX10_person 5 = .ok (.ifCond .ne 6, 3) := by decide +kernel
theorem dX10_person_8 : decode cX10_person 8 = .ok (.ldc 175, 2) := by decide +kernel
theorem dX10_person_10 : decode cX10_person 10 = .ok (.ireturn, 1) := by decide +kernel
theorem dX10_person_11 : decode cX10_person 11 = .ok (.iload_n 2, 1) := by decide +kernel
theorem dX10_person_12 : decode cX10_person 12 = .ok (.tableswitch 96 0 4 #[36, 56, 66, 76, 86], 36) := by decide +kernel
theorem dX10_person_48 : decode cX10_person 48 = .ok (.aload_n 0, 1) := by decide +kernel
theorem dX10_person_49 : decode cX10_person 49 = .ok (.getfield 7, 3) := by decide +kernel
theorem dX10_person_52 : decode cX10_person 52 = .ok (.bipush 21, 2) := by decide +kernel
theorem dX10_person_54 : decode cX10_person 54 = .ok (.iaload, 1) := by decide +kernel
theorem dX10_person_55 : decode cX10_person 55 = .ok (.iload_n 1, 1) := by decide +kernel
theorem dX10_person_56 : decode cX10_person 56 = .ok (.invokestatic 142, 3) := by decide +kernel
theorem dX10_person_59 : decode cX10_person 59 = .ok (.ifCond .eq 7, 3) := by decide +kernel
theorem dX10_person_62 : decode cX10_person 62 = .ok (.iconst 1, 1) := by decide +kernel
theorem dX10_person_63 : decode cX10_person 63 = .ok (.goto 4, 3) := by decide +kernel
theorem dX10_person_66 : decode cX10_person 66 = .ok (.iconst 0, 1) := by decide +kernel
theorem dX10_person_67 : decode cX10_person 67 = .ok (.ireturn, 1) := by decide +kernel
theorem dX10_person_68 : decode cX10_person 68 = .ok (.aload_n 0, 1) := by decide +kernel
theorem dX10_person_69 : decode cX10_person 69 = .ok (.getfield 16, 3) := by decide +kernel
theorem dX10_person_72 : decode cX10_person 72 = .ok (.bipush 44, 2) := by decide +kernel
theorem dX10_person_74 : decode cX10_person 74 = .ok (.iload_n 1, 1) := by decide +kernel
theorem dX10_person_75 : decode cX10_person 75 = .ok (.iadd, 1) := by decide +kernel
theorem dX10_person_76 : decode cX10_person 76 = .ok (.iaload, 1) := by decide +kernel
theorem dX10_person_77 : decode cX10_person 77 = .ok (.ireturn, 1) := by decide +kernel
theorem dX10_person_78 : decode cX10_person 78 = .ok (.aload_n 0, 1) := by decide +kernel
theorem dX10_person_79 : decode cX10_person 79 = .ok (.aload_n 0, 1) := by decide +kernel
theorem dX10_person_80 : decode cX10_person 80 = .ok (.getfield 16, 3) := by decide +kernel
theorem dX10_person_83 : decode cX10_person 83 = .ok (.iload_n 1, 1) := by decide +kernel
theorem dX10_person_84 : decode cX10_person 84 = .ok (.invokevirtual 162, 3) := by decide +kernel
theorem dX10_person_87 : decode cX10_person 87 = .ok (.ireturn, 1) := by decide +kernel
theorem dX10_person_88 : decode cX10_person 88 = .ok (.aload_n 0, 1) := by decide +kernel
theorem dX10_person_89 : decode cX10_person 89 = .ok (.aload_n 0, 1) := by decide +kernel
theorem dX10_person_90 : decode cX10_person 90 = .ok (.getfield 16, 3) := by decide +kernel
theorem dX10_person_93 : decode cX10_person 93 = .ok (.iload_n 1, 1) := by decide +kernel
theorem dX10_person_94 : decode cX10_person 94 = .ok (.invokevirtual 179, 3) := by decide +kernel
theorem dX10_person_97 : decode cX10_person 97 = .ok (.ireturn, 1) := by decide +kernel
theorem dX10_person_98 : decode cX10_person 98 = .ok (.aload_n 0, 1) := by decide +kernel
theorem dX10_person_99 : decode cX10_person 99 = .ok (.getfield 16, 3) := by decide +kernel
theorem dX10_person_102 : decode cX10_person 102 = .ok (.bipush 36, 2) := by decide +kernel
theorem dX10_person_104 : decode cX10_person 104 = .ok (.iload_n 1, 1) := by decide +kernel
theorem dX10_person_105 : decode cX10_person 105 = .ok (.iadd, 1) := by decide +kernel
theorem dX10_person_106 : decode cX10_person 106 = .ok (.iaload, 1) := by decide +kernel
theorem dX10_person_107 : decode cX10_person 107 = .ok (.ireturn, 1) := by decide +kernel
theorem dX10_person_108 : decode cX10_person 108 = .ok (.ldc 80, 2) := by decide +kernel
theorem dX10_person_110 : decode cX10_person 110 = .ok (.ireturn, 1) := by decide +kernel
theorem dX10_owes_0 : decode cX10_owes 0 = .ok (.aload_n 0, 1) := by decide +kernel
theorem dX10_owes_1 : decode cX10_owes 1 = .ok (.iload_n 1, 1) := by decide +kernel
theorem dX10_owes_2 : decode cX10_owes 2 = .ok (.invokevirtual 139, 3) := by decide +kernel
theorem dX10_owes_5 : decode cX10_owes 5 = .ok (.ifCond .eq 26, 3) := by decide +kernel
theorem dX10_owes_8 : decode cX10_owes 8 = .ok (.aload_n 0, 1) := by decide +kernel
theorem dX10_owes_9 : decode cX10_owes 9 = .ok (.iload_n 2, 1) := by decide +kernel
theorem dX10_owes_10 : decode cX10_owes 10 = .ok (.invokevirtual 172, 3) := by decide +kernel
theorem dX10_owes_13 : decode cX10_owes 13 = .ok (.ifCond .eq 18, 3) := by decide +kernel
theorem dX10_owes_16 : decode cX10_owes 16 = .ok (.aload_n 0, 1) := by decide +kernel
theorem dX10_owes_17 : decode cX10_owes 17 = .ok (.getfield 16, 3) := by decide +kernel
theorem dX10_owes_20 : decode cX10_owes 20 = .ok (.iconst 0, 1) := by decide +kernel
theorem dX10_owes_21 : decode cX10_owes 21 = .ok (.iconst 4, 1) := by decide +kernel
theorem dX10_owes_22 : decode cX10_owes 22 = .ok (.iload_n 1, 1) := by decide +kernel
theorem dX10_owes_23 : decode cX10_owes 23 = .ok (.imul, 1) := by decide +kernel
theorem dX10_owes_24 : decode cX10_owes 24 = .ok (.iadd, 1) := by decide +kernel
theorem dX10_owes_25 : decode cX10_owes 25 = .ok (.iload_n 2, 1) := by decide +kernel
theorem dX10_owes_26 : decode cX10_owes 26 = .ok (.iadd, 1) := by decide +kernel
theorem dX10_owes_27 : decode cX10_owes 27 = .ok (.iaload, 1) := by decide +kernel
theorem dX10_owes_28 : decode cX10_owes 28 = .ok (.goto 5, 3) := by decide +kernel
theorem dX10_owes_31 : decode cX10_owes 31 = .ok (.ldc 175, 2) := by decide +kernel
theorem dX10_owes_33 : decode cX10_owes 33 = .ok (.ireturn, 1) := by decide +kernel
theorem dX10_temper_0 : decode cX10_temper 0 = .ok (.aload_n 0, 1) := by decide +kernel
theorem dX10_temper_1 : decode cX10_temper 1 = .ok (.iload_n 1, 1) := by decide +kernel
theorem dX10_temper_2 : decode cX10_temper 2 = .ok (.invokevirtual 139, 3) := by decide +kernel
theorem dX10_temper_5 : decode cX10_temper 5 = .ok (.ifCond .eq 24, 3) := by decide +kernel
theorem dX10_temper_8 : decode cX10_temper 8 = .ok (.aload_n 0, 1) := by decide +kernel
theorem dX10_temper_9 : decode cX10_temper 9 = .ok (.iload_n 2, 1) := by decide +kernel
theorem dX10_temper_10 : decode cX10_temper 10 = .ok (.invokevirtual 172, 3) := by decide +kernel
theorem dX10_temper_13 : decode cX10_temper 13 = .ok (.ifCond .eq 16, 3) := by decide +kernel
theorem dX10_temper_16 : decode cX10_temper 16 = .ok (.aload_n 0, 1) := by decide +kernel
theorem dX10_temper_17 : decode cX10_temper 17 = .ok (.aload_n 0, 1) := by decide +kernel
theorem dX10_temper_18 : decode cX10_temper 18 = .ok (.getfield 16, 3) := by decide +kernel
theorem dX10_temper_21 : decode cX10_temper 21 = .ok (.iload_n 1, 1) := by decide +kernel
theorem dX10_temper_22 : decode cX10_temper 22 = .ok (.iload_n 2, 1) := by decide +kernel
theorem dX10_temper_23 : decode cX10_temper 23 = .ok (.invokevirtual 146, 3) := by decide +kernel
theorem dX10_temper_26 : decode cX10_temper 26 = .ok (.goto 5, 3) := by decide +kernel
theorem dX10_temper_29 : decode cX10_temper 29 = .ok (.ldc 175, 2) := by decide +kernel
theorem dX10_temper_31 : decode cX10_temper 31 = .ok (.ireturn, 1) := by decide +kernel
theorem dX10_remember_0 : decode cX10_remember 0 = .ok (.aload_n 0, 1) := by decide +kernel
theorem dX10_remember_1 : decode cX10_remember 1 = .ok (.getfield 69, 3) := by decide +kernel
theorem dX10_remember_4 : decode cX10_remember 4 = .ok (.bipush 30, 2) := by decide +kernel
theorem dX10_remember_6 : decode cX10_remember 6 = .ok (.if_icmp .ne 43, 3) := by decide +kernel
theorem dX10_remember_9 : decode cX10_remember 9 = .ok (.iconst 0, 1) := by decide +kernel
theorem dX10_remember_10 : decode cX10_remember 10 = .ok (.istore_n 1, 1) := by decide +kernel
theorem dX10_remember_11 : decode cX10_remember 11 = .ok (.iload_n 1, 1) := by decide +kernel
theorem dX10_remember_12 : decode cX10_remember 12 = .ok (.sipush 1566, 3) := by decide +kernel
theorem dX10_remember_15 : decode cX10_remember 15 = .ok (.if_icmp .ge 24, 3) := by decide +kernel
theorem dX10_remember_18 : decode cX10_remember 18 = .ok (.aload_n 0, 1) := by decide +kernel
theorem dX10_remember_19 : decode cX10_remember 19 = .ok (.getfield 22, 3) := by decide +kernel
theorem dX10_remember_22 : decode cX10_remember 22 = .ok (.iload_n 1, 1) := by decide +kernel
theorem dX10_remember_23 : decode cX10_remember 23 = .ok (.aload_n 0, 1) := by decide +kernel
theorem dX10_remember_24 : decode cX10_remember 24 = .ok (.getfield 22, 3) := by decide +kernel
theorem dX10_remember_27 : decode cX10_remember 27 = .ok (.iload_n 1, 1) := by decide +kernel
theorem dX10_remember_28 : decode cX10_remember 28 = .ok (.bipush 54, 2) := by decide +kernel
theorem dX10_remember_30 : decode cX10_remember 30 = .ok (.iadd, 1) := by decide +kernel
theorem dX10_remember_31 : decode cX10_remember 31 = .ok (.iaload, 1) := by decide +kernel
theorem dX10_remember_32 : decode cX10_remember 32 = .ok (.iastore, 1) := by decide +kernel
theorem dX10_remember_33 : decode cX10_remember 33 = .ok (.iinc 1 1, 3) := by decide +kernel
theorem dX10_remember_36 : decode cX10_remember 36 = .ok (.goto (-25), 3) := by decide +kernel
theorem dX10_remember_39 : decode cX10_remember 39 = .ok (.aload_n 0, 1) := by decide +kernel
theorem dX10_remember_40 : decode cX10_remember 40 = .ok (.dup, 1) := by decide +kernel
theorem dX10_remember_41 : decode cX10_remember 41 = .ok (.getfield 69, 3) := by decide +kernel
theorem dX10_remember_44 : decode cX10_remember 44 = .ok (.iconst 1, 1) := by decide +kernel
theorem dX10_remember_45 : decode cX10_remember 45 = .ok (.isub, 1) := by decide +kernel
theorem dX10_remember_46 : decode cX10_remember 46 = .ok (.putfield 69, 3) := by decide +kernel
theorem dX10_remember_49 : decode cX10_remember 49 = .ok (.aload_n 0, 1) := by decide +kernel
theorem dX10_remember_50 : decode cX10_remember 50 = .ok (.getfield 16, 3) := by decide +kernel
theorem dX10_remember_53 : decode cX10_remember 53 = .ok (.iconst 0, 1) := by decide +kernel
theorem dX10_remember_54 : decode cX10_remember 54 = .ok (.aload_n 0, 1) := by decide +kernel
theorem dX10_remember_55 : decode cX10_remember 55 = .ok (.getfield 22, 3) := by decide +kernel
theorem dX10_remember_58 : decode cX10_remember 58 = .ok (.bipush 54, 2) := by decide +kernel
theorem dX10_remember_60 : decode cX10_remember 60 = .ok (.aload_n 0, 1) := by decide +kernel
theorem dX10_remember_61 : decode cX10_remember 61 = .ok (.getfield 69, 3) := by decide +kernel
theorem dX10_remember_64 : decode cX10_remember 64 = .ok (.imul, 1) := by decide +kernel
theorem dX10_remember_65 : decode cX10_remember 65 = .ok (.bipush 54, 2) := by decide +kernel
theorem dX10_remember_67 : decode cX10_remember 67 = .ok (.invokestatic 57, 3) := by decide +kernel
theorem dX10_remember_70 : decode cX10_remember 70 = .ok (.aload_n 0, 1) := by decide +kernel
theorem dX10_remember_71 : decode cX10_remember 71 = .ok (.dup, 1) := by decide +kernel
theorem dX10_remember_72 : decode cX10_remember 72 = .ok (.getfield 69, 3) := by decide +kernel
theorem dX10_remember_75 : decode cX10_remember 75 = .ok (.iconst 1, 1) := by decide +kernel
theorem dX10_remember_76 : decode cX10_remember 76 = .ok (.iadd, 1) := by decide +kernel
theorem dX10_remember_77 : decode cX10_remember 77 = .ok (.putfield 69, 3) := by decide +kernel
theorem dX10_remember_80 : decode cX10_remember 80 = .ok (.return_, 1) := by decide +kernel
theorem dX10_isWedMan_0 : decode cX10_isWedMan 0 = .ok (.aload_n 0, 1) := by decide +kernel
theorem dX10_isWedMan_1 : decode cX10_isWedMan 1 = .ok (.iload_n 1, 1) := by decide +kernel
theorem dX10_isWedMan_2 : decode cX10_isWedMan 2 = .ok (.invokevirtual 182, 3) := by decide +kernel
theorem dX10_isWedMan_5 : decode cX10_isWedMan 5 = .ok (.ifCond .eq 20, 3) := by decide +kernel
theorem dX10_isWedMan_8 : decode cX10_isWedMan 8 = .ok (.aload_n 0, 1) := by decide +kernel
theorem dX10_isWedMan_9 : decode cX10_isWedMan 9 = .ok (.getfield 16, 3) := by decide +kernel
theorem dX10_isWedMan_12 : decode cX10_isWedMan 12 = .ok (.bipush 44, 2) := by decide +kernel
theorem dX10_isWedMan_14 : decode cX10_isWedMan 14 = .ok (.iload_n 1, 1) := by decide +kernel
theorem dX10_isWedMan_15 : decode cX10_isWedMan 15 = .ok (.iadd, 1) := by decide +kernel
theorem dX10_isWedMan_16 : decode cX10_isWedMan 16 = .ok (.iaload, 1) := by decide +kernel
theorem dX10_isWedMan_17 : decode cX10_isWedMan 17 = .ok (.iconst (-1), 1) := by decide +kernel
theorem dX10_isWedMan_18 : decode cX10_isWedMan 18 = .ok (.if_icmp .eq 7, 3) := by decide +kernel
theorem dX10_isWedMan_21 : decode cX10_isWedMan 21 = .ok (.iconst 1, 1) := by decide +kernel
theorem dX10_isWedMan_22 : decode cX10_isWedMan 22 = .ok (.goto 4, 3) := by decide +kernel
theorem dX10_isWedMan_25 : decode cX10_isWedMan 25 = .ok (.iconst 0, 1) := by decide +kernel
theorem dX10_isWedMan_26 : decode cX10_isWedMan 26 = .ok (.ireturn, 1) := by decide +kernel
theorem dX10_mayBorrow_0 : decode cX10_mayBorrow 0 = .ok (.aload_n 0, 1) := by decide +kernel
theorem dX10_mayBorrow_1 : decode cX10_mayBorrow 1 = .ok (.iload_n 1, 1) := by decide +kernel
theorem dX10_mayBorrow_2 : decode cX10_mayBorrow 2 = .ok (.invokevirtual 185, 3) := by decide +kernel
theorem dX10_mayBorrow_5 : decode cX10_mayBorrow 5 = .ok (.ifCond .ne 34, 3) := by decide +kernel
theorem dX10_mayBorrow_8 : decode cX10_mayBorrow 8 = .ok (.aload_n 0, 1) := by decide +kernel
theorem dX10_mayBorrow_9 : decode cX10_mayBorrow 9 = .ok (.getfield 16, 3) := by decide +kernel
theorem dX10_mayBorrow_12 : decode cX10_mayBorrow 12 = .ok (.bipush 52, 2) := by decide +kernel
theorem dX10_mayBorrow_14 : decode cX10_mayBorrow 14 = .ok (.iaload, 1) := by decide +kernel
theorem dX10_mayBorrow_15 : decode cX10_mayBorrow 15 = .ok (.iload_n 2, 1) := by decide +kernel
theorem dX10_mayBorrow_16 : decode cX10_mayBorrow 16 = .ok (.invokestatic 142, 3) := by decide +kernel
theorem dX10_mayBorrow_19 : decode cX10_mayBorrow 19 = .ok (.ifCond .ne 20, 3) := by decide +kernel
theorem dX10_mayBorrow_22 : decode cX10_mayBorrow 22 = .ok (.aload_n 0, 1) := by decide +kernel
theorem dX10_mayBorrow_23 : decode cX10_mayBorrow 23 = .ok (.getfield 16, 3) := by decide +kernel
theorem dX10_mayBorrow_26 : decode cX10_mayBorrow 26 = .ok (.bipush 32, 2) := by decide +kernel
theorem dX10_mayBorrow_28 : decode cX10_mayBorrow 28 = .ok (.iload_n 2, 1) := by decide +kernel
theorem dX10_mayBorrow_29 : decode cX10_mayBorrow 29 = .ok (.iadd, 1) := by decide +kernel
theorem dX10_mayBorrow_30 : decode cX10_mayBorrow 30 = .ok (.iaload, 1) := by decide +kernel
theorem dX10_mayBorrow_31 : decode cX10_mayBorrow 31 = .ok (.iload_n 3, 1) := by decide +kernel
theorem dX10_mayBorrow_32 : decode cX10_mayBorrow 32 = .ok (.if_icmp .lt 7, 3) := by decide +kernel
theorem dX10_mayBorrow_35 : decode cX10_mayBorrow 35 = .ok (.iconst 1, 1) := by decide +kernel
theorem dX10_mayBorrow_36 : decode cX10_mayBorrow 36 = .ok (.goto 4, 3) := by decide +kernel
theorem dX10_mayBorrow_39 : decode cX10_mayBorrow 39 = .ok (.iconst 0, 1) := by decide +kernel
theorem dX10_mayBorrow_40 : decode cX10_mayBorrow 40 = .ok (.ireturn, 1) := by decide +kernel
theorem dX10_borrows_0 : decode cX10_borrows 0 = .ok (.aload_n 0, 1) := by decide +kernel
theorem dX10_borrows_1 : decode cX10_borrows 1 = .ok (.getfield 16, 3) := by decide +kernel
theorem dX10_borrows_4 : decode cX10_borrows 4 = .ok (.iconst 0, 1) := by decide +kernel
theorem dX10_borrows_5 : decode cX10_borrows 5 = .ok (.iconst 4, 1) := by decide +kernel
theorem dX10_borrows_6 : decode cX10_borrows 6 = .ok (.iload_n 1, 1) := by decide +kernel
theorem dX10_borrows_7 : decode cX10_borrows 7 = .ok (.imul, 1) := by decide +kernel
theorem dX10_borrows_8 : decode cX10_borrows 8 = .ok (.iadd, 1) := by decide +kernel
theorem dX10_borrows_9 : decode cX10_borrows 9 = .ok (.iload_n 2, 1) := by decide +kernel
theorem dX10_borrows_10 : decode cX10_borrows 10 = .ok (.iadd, 1) := by decide +kernel
theorem dX10_borrows_11 : decode cX10_borrows 11 = .ok (.aload_n 0, 1) := by decide +kernel
theorem dX10_borrows_12 : decode cX10_borrows 12 = .ok (.getfield 16, 3) := by decide +kernel
theorem dX10_borrows_15 : decode cX10_borrows 15 = .ok (.iconst 0, 1) := by decide +kernel
theorem dX10_borrows_16 : decode cX10_borrows 16 = .ok (.iconst 4, 1) := by decide +kernel
theorem dX10_borrows_17 : decode cX10_borrows 17 = .ok (.iload_n 1, 1) := by decide +kernel
theorem dX10_borrows_18 : decode cX10_borrows 18 = .ok (.imul, 1) := by decide +kernel
theorem dX10_borrows_19 : decode cX10_borrows 19 = .ok (.iadd, 1) := by decide +kernel
theorem dX10_borrows_20 : decode cX10_borrows 20 = .ok (.iload_n 2, 1) := by decide +kernel
theorem dX10_borrows_21 : decode cX10_borrows 21 = .ok (.iadd, 1) := by decide +kernel
theorem dX10_borrows_22 : decode cX10_borrows 22 = .ok (.iaload, 1) := by decide +kernel
theorem dX10_borrows_23 : decode cX10_borrows 23 = .ok (.iload_n 3, 1) := by decide +kernel
theorem dX10_borrows_24 : decode cX10_borrows 24 = .ok (.iadd, 1) := by decide +kernel
theorem dX10_borrows_25 : decode cX10_borrows 25 = .ok (.sipush 9999, 3) := by decide +kernel
theorem dX10_borrows_28 : decode cX10_borrows 28 = .ok (.invokestatic 150, 3) := by decide +kernel
theorem dX10_borrows_31 : decode cX10_borrows 31 = .ok (.iastore, 1) := by decide +kernel
theorem dX10_borrows_32 : decode cX10_borrows 32 = .ok (.aload_n 0, 1) := by decide +kernel
theorem dX10_borrows_33 : decode cX10_borrows 33 = .ok (.getfield 16, 3) := by decide +kernel
theorem dX10_borrows_36 : decode cX10_borrows 36 = .ok (.bipush 32, 2) := by decide +kernel
theorem dX10_borrows_38 : decode cX10_borrows 38 = .ok (.iload_n 2, 1) := by decide +kernel
theorem dX10_borrows_39 : decode cX10_borrows 39 = .ok (.iadd, 1) := by decide +kernel
theorem dX10_borrows_40 : decode cX10_borrows 40 = .ok (.dup2, 1) := by decide +kernel
theorem dX10_borrows_41 : decode cX10_borrows 41 = .ok (.iaload, 1) := by decide +kernel
theorem dX10_borrows_42 : decode cX10_borrows 42 = .ok (.iload_n 3, 1) := by decide +kernel
theorem dX10_borrows_43 : decode cX10_borrows 43 = .ok (.isub, 1) := by decide +kernel
theorem dX10_borrows_44 : decode cX10_borrows 44 = .ok (.iastore, 1) := by decide +kernel
theorem dX10_borrows_45 : decode cX10_borrows 45 = .ok (.return_, 1) := by decide +kernel
theorem dX10_borrow_0 : decode cX10_borrow 0 = .ok (.aload_n 0, 1) := by decide +kernel
theorem dX10_borrow_1 : decode cX10_borrow 1 = .ok (.iload_n 1, 1) := by decide +kernel
theorem dX10_borrow_2 : decode cX10_borrow 2 = .ok (.invokevirtual 139, 3) := by decide +kernel
theorem dX10_borrow_5 : decode cX10_borrow 5 = .ok (.ifCond .eq 11, 3) := by decide +kernel
theorem dX10_borrow_8 : decode cX10_borrow 8 = .ok (.aload_n 0, 1) := by decide +kernel
theorem dX10_borrow_9 : decode cX10_borrow 9 = .ok (.iload_n 2, 1) := by decide +kernel
theorem dX10_borrow_10 : decode cX10_borrow 10 = .ok (.invokevirtual 172, 3) := by decide +kernel
theorem dX10_borrow_13 : decode cX10_borrow 13 = .ok (.ifCond .ne 6, 3) := by decide +kernel
theorem dX10_borrow_16 : decode cX10_borrow 16 = .ok (.ldc 175, 2) := by decide +kernel
theorem dX10_borrow_18 : decode cX10_borrow 18 = .ok (.ireturn, 1) := by decide +kernel
theorem dX10_borrow_19 : decode cX10_borrow 19 = .ok (.iload_n 3, 1) := by decide +kernel
theorem dX10_borrow_20 : decode cX10_borrow 20 = .ok (.i2l, 1) := by decide +kernel
theorem dX10_borrow_21 : decode cX10_borrow 21 = .ok (.lconst 1, 1) := by decide +kernel
theorem dX10_borrow_22 : decode cX10_borrow 22 = .ok (.ldc2_w 188, 3) := by decide +kernel
theorem dX10_borrow_25 : decode cX10_borrow 25 = .ok (.invokestatic 65, 3) := by decide +kernel
theorem dX10_borrow_28 : decode cX10_borrow 28 = .ok (.ifCond .ne 6, 3) := by decide +kernel
theorem dX10_borrow_31 : decode cX10_borrow 31 = .ok (.ldc 80, 2) := by decide +kernel
theorem dX10_borrow_33 : decode cX10_borrow 33 = .ok (.ireturn, 1) := by decide +kernel
theorem dX10_borrow_34 : decode cX10_borrow 34 = .ok (.aload_n 0, 1) := by decide +kernel
theorem dX10_borrow_35 : decode cX10_borrow 35 = .ok (.iload_n 1, 1) := by decide +kernel
theorem dX10_borrow_36 : decode cX10_borrow 36 = .ok (.iload_n 2, 1) := by decide +kernel
theorem dX10_borrow_37 : decode cX10_borrow 37 = .ok (.iload_n 3, 1) := by decide +kernel
theorem dX10_borrow_38 : decode cX10_borrow 38 = .ok (.invokevirtual 190, 3) := by decide +kernel
theorem dX10_borrow_41 : decode cX10_borrow 41 = .ok (.ifCond .ne 6, 3) := by decide +kernel
theorem dX10_borrow_44 : decode cX10_borrow 44 = .ok (.ldc 193, 2) := by decide +kernel
theorem dX10_borrow_46 : decode cX10_borrow 46 = .ok (.ireturn, 1) := by decide +kernel
theorem dX10_borrow_47 : decode cX10_borrow 47 = .ok (.aload_n 0, 1) := by decide +kernel
theorem dX10_borrow_48 : decode cX10_borrow 48 = .ok (.invokevirtual 194, 3) := by decide +kernel
theorem dX10_borrow_51 : decode cX10_borrow 51 = .ok (.aload_n 0, 1) := by decide +kernel
theorem dX10_borrow_52 : decode cX10_borrow 52 = .ok (.iload_n 1, 1) := by decide +kernel
theorem dX10_borrow_53 : decode cX10_borrow 53 = .ok (.iload_n 2, 1) := by decide +kernel
theorem dX10_borrow_54 : decode cX10_borrow 54 = .ok (.iload_n 3, 1) := by decide +kernel
theorem dX10_borrow_55 : decode cX10_borrow 55 = .ok (.invokevirtual 197, 3) := by decide +kernel
theorem dX10_borrow_58 : decode cX10_borrow 58 = .ok (.aload_n 0, 1) := by decide +kernel
theorem dX10_borrow_59 : decode cX10_borrow 59 = .ok (.getfield 16, 3) := by decide +kernel
theorem dX10_borrow_62 : decode cX10_borrow 62 = .ok (.iconst 0, 1) := by decide +kernel
theorem dX10_borrow_63 : decode cX10_borrow 63 = .ok (.iconst 4, 1) := by decide +kernel
theorem dX10_borrow_64 : decode cX10_borrow 64 = .ok (.iload_n 1, 1) := by decide +kernel
theorem dX10_borrow_65 : decode cX10_borrow 65 = .ok (.imul, 1) := by decide +kernel
theorem dX10_borrow_66 : decode cX10_borrow 66 = .ok (.iadd, 1) := by decide +kernel
theorem dX10_borrow_67 : decode cX10_borrow 67 = .ok (.iload_n 2, 1) := by decide +kernel
theorem dX10_borrow_68 : decode cX10_borrow 68 = .ok (.iadd, 1) := by decide +kernel
theorem dX10_borrow_69 : decode cX10_borrow 69 = .ok (.iaload, 1) := by decide +kernel
theorem dX10_borrow_70 : decode cX10_borrow 70 = .ok (.ireturn, 1) := by decide +kernel
theorem dX10_pay_0 : decode cX10_pay 0 = .ok (.aload_n 0, 1) := by decide +kernel
theorem dX10_pay_1 : decode cX10_pay 1 = .ok (.iload_n 1, 1) := by decide +kernel
theorem dX10_pay_2 : decode cX10_pay 2 = .ok (.invokevirtual 139, 3) := by decide +kernel
theorem dX10_pay_5 : decode cX10_pay 5 = .ok (.ifCond .eq 11, 3) := by decide +kernel
theorem dX10_pay_8 : decode cX10_pay 8 = .ok (.aload_n 0, 1) := by decide +kernel
theorem dX10_pay_9 : decode cX10_pay 9 = .ok (.iload_n 2, 1) := by decide +kernel
theorem dX10_pay_10 : decode cX10_pay 10 = .ok (.invokevirtual 172, 3) := by decide +kernel
theorem dX10_pay_13 : decode cX10_pay 13 = .ok (.ifCond .ne 6, 3) := by decide +kernel
theorem dX10_pay_16 : decode cX10_pay 16 = .ok (.ldc 175, 2) := by decide +kernel
theorem dX10_pay_18 : decode cX10_pay 18 = .ok (.ireturn, 1) := by decide +kernel
theorem dX10_pay_19 : decode cX10_pay 19 = .ok (.iload_n 3, 1) := by decide +kernel
theorem dX10_pay_20 : decode cX10_pay 20 = .ok (.i2l, 1) := by decide +kernel
theorem dX10_pay_21 : decode cX10_pay 21 = .ok (.lconst 1, 1) := by decide +kernel
theorem dX10_pay_22 : decode cX10_pay 22 = .ok (.ldc2_w 201, 3) := by decide +kernel
theorem dX10_pay_25 : decode cX10_pay 25 = .ok (.invokestatic 65, 3) := by decide +kernel
theorem dX10_pay_28 : decode cX10_pay 28 = .ok (.ifCond .ne 6, 3) := by decide +kernel
theorem dX10_pay_31 : decode cX10_pay 31 = .ok (.ldc 80, 2) := by decide +kernel
theorem dX10_pay_33 : decode cX10_pay 33 = .ok (.ireturn, 1) := by decide +kernel
theorem dX10_pay_34 : decode cX10_pay 34 = .ok (.aload_n 0, 1) := by decide +kernel
theorem dX10_pay_35 : decode cX10_pay 35 = .ok (.getfield 16, 3) := by decide +kernel
theorem dX10_pay_38 : decode cX10_pay 38 = .ok (.iconst 0, 1) := by decide +kernel
theorem dX10_pay_39 : decode cX10_pay 39 = .ok (.iconst 4, 1) := by decide +kernel
theorem dX10_pay_40 : decode cX10_pay 40 = .ok (.iload_n 1, 1) := by decide +kernel
theorem dX10_pay_41 : decode cX10_pay 41 = .ok (.imul, 1) := by decide +kernel
theorem dX10_pay_42 : decode cX10_pay 42 = .ok (.iadd, 1) := by decide +kernel
theorem dX10_pay_43 : decode cX10_pay 43 = .ok (.iload_n 2, 1) := by decide +kernel
theorem dX10_pay_44 : decode cX10_pay 44 = .ok (.iadd, 1) := by decide +kernel
theorem dX10_pay_45 : decode cX10_pay 45 = .ok (.iaload, 1) := by decide +kernel
theorem dX10_pay_46 : decode cX10_pay 46 = .ok (.istore 4, 2) := by decide +kernel
theorem dX10_pay_48 : decode cX10_pay 48 = .ok (.iload 4, 2) := by decide +kernel
theorem dX10_pay_50 : decode cX10_pay 50 = .ok (.iload_n 3, 1) := by decide +kernel
theorem dX10_pay_51 : decode cX10_pay 51 = .ok (.if_icmp .ge 6, 3) := by decide +kernel
theorem dX10_pay_54 : decode cX10_pay 54 = .ok (.ldc 193, 2) := by decide +kernel
theorem dX10_pay_56 : decode cX10_pay 56 = .ok (.ireturn, 1) := by decide +kernel
theorem dX10_pay_57 : decode cX10_pay 57 = .ok (.aload_n 0, 1) := by decide +kernel
theorem dX10_pay_58 : decode cX10_pay 58 = .ok (.invokevirtual 194, 3) := by decide +kernel
theorem dX10_pay_61 : decode cX10_pay 61 = .ok (.aload_n 0, 1) := by decide +kernel
theorem dX10_pay_62 : decode cX10_pay 62 = .ok (.getfield 16, 3) := by decide +kernel
theorem dX10_pay_65 : decode cX10_pay 65 = .ok (.bipush 36, 2) := by decide +kernel
theorem dX10_pay_67 : decode cX10_pay 67 = .ok (.iload_n 1, 1) := by decide +kernel
theorem dX10_pay_68 : decode cX10_pay 68 = .ok (.iadd, 1) := by decide +kernel
theorem dX10_pay_69 : decode cX10_pay 69 = .ok (.dup2, 1) := by decide +kernel
theorem dX10_pay_70 : decode cX10_pay 70 = .ok (.iaload, 1) := by decide +kernel
theorem dX10_pay_71 : decode cX10_pay 71 = .ok (.iload_n 3, 1) := by decide +kernel
theorem dX10_pay_72 : decode cX10_pay 72 = .ok (.bipush 100, 2) := by decide +kernel
theorem dX10_pay_74 : decode cX10_pay 74 = .ok (.imul, 1) := by decide +kernel
theorem dX10_pay_75 : decode cX10_pay 75 = .ok (.aload_n 0, 1) := by decide +kernel
theorem dX10_pay_76 : decode cX10_pay 76 = .ok (.getfield 7, 3) := by decide +kernel
theorem dX10_pay_79 : decode cX10_pay 79 = .ok (.iconst 2, 1) := by decide +kernel
theorem dX10_pay_80 : decode cX10_pay 80 = .ok (.iaload, 1) := by decide +kernel
theorem dX10_pay_81 : decode cX10_pay 81 = .ok (.iload 4, 2) := by decide +kernel
theorem dX10_pay_83 : decode cX10_pay 83 = .ok (.imul, 1) := by decide +kernel
theorem dX10_pay_84 : decode cX10_pay 84 = .ok (.if_icmp .le 9, 3) := by decide +kernel
theorem dX10_pay_87 : decode cX10_pay 87 = .ok (.iconst 1, 1) := by decide +kernel
theorem dX10_pay_88 : decode cX10_pay 88 = .ok (.iload_n 2, 1) := by decide +kernel
theorem dX10_pay_89 : decode cX10_pay 89 = .ok (.ishl, 1) := by decide +kernel
theorem dX10_pay_90 : decode cX10_pay 90 = .ok (.goto 4, 3) := by decide +kernel
theorem dX10_pay_93 : decode cX10_pay 93 = .ok (.iconst 0, 1) := by decide +kernel
theorem dX10_pay_94 : decode cX10_pay 94 = .ok (.ior, 1) := by decide +kernel
theorem dX10_pay_95 : decode cX10_pay 95 = .ok (.iastore, 1) := by decide +kernel
theorem dX10_pay_96 : decode cX10_pay 96 = .ok (.aload_n 0, 1) := by decide +kernel
theorem dX10_pay_97 : decode cX10_pay 97 = .ok (.getfield 16, 3) := by decide +kernel
theorem dX10_pay_100 : decode cX10_pay 100 = .ok (.iconst 0, 1) := by decide +kernel
theorem dX10_pay_101 : decode cX10_pay 101 = .ok (.iconst 4, 1) := by decide +kernel
theorem dX10_pay_102 : decode cX10_pay 102 = .ok (.iload_n 1, 1) := by decide +kernel
theorem dX10_pay_103 : decode cX10_pay 103 = .ok (.imul, 1) := by decide +kernel
theorem dX10_pay_104 : decode cX10_pay 104 = .ok (.iadd, 1) := by decide +kernel
theorem dX10_pay_105 : decode cX10_pay 105 = .ok (.iload_n 2, 1) := by decide +kernel
theorem dX10_pay_106 : decode cX10_pay 106 = .ok (.iadd, 1) := by decide +kernel
theorem dX10_pay_107 : decode cX10_pay 107 = .ok (.iload 4, 2) := by decide +kernel
theorem dX10_pay_109 : decode cX10_pay 109 = .ok (.iload_n 3, 1) := by decide +kernel
theorem dX10_pay_110 : decode cX10_pay 110 = .ok (.isub, 1) := by decide +kernel
theorem dX10_pay_111 : decode cX10_pay 111 = .ok (.iastore, 1) := by decide +kernel
theorem dX10_pay_112 : decode cX10_pay 112 = .ok (.aload_n 0, 1) := by decide +kernel
theorem dX10_pay_113 : decode cX10_pay 113 = .ok (.getfield 16, 3) := by decide +kernel
theorem dX10_pay_116 : decode cX10_pay 116 = .ok (.bipush 32, 2) := by decide +kernel
theorem dX10_pay_118 : decode cX10_pay 118 = .ok (.iload_n 2, 1) := by decide +kernel
theorem dX10_pay_119 : decode cX10_pay 119 = .ok (.iadd, 1) := by decide +kernel
theorem dX10_pay_120 : decode cX10_pay 120 = .ok (.aload_n 0, 1) := by decide +kernel
theorem dX10_pay_121 : decode cX10_pay 121 = .ok (.getfield 16, 3) := by decide +kernel
theorem dX10_pay_124 : decode cX10_pay 124 = .ok (.bipush 32, 2) := by decide +kernel
theorem dX10_pay_126 : decode cX10_pay 126 = .ok (.iload_n 2, 1) := by decide +kernel
theorem dX10_pay_127 : decode cX10_pay 127 = .ok (.iadd, 1) := by decide +kernel
theorem dX10_pay_128 : decode cX10_pay 128 = .ok (.iaload, 1) := by decide +kernel
theorem dX10_pay_129 : decode cX10_pay 129 = .ok (.iload_n 3, 1) := by decide +kernel
theorem dX10_pay_130 : decode cX10_pay 130 = .ok (.iadd, 1) := by decide +kernel
theorem dX10_pay_131 : decode cX10_pay 131 = .ok (.sipush 9999, 3) := by decide +kernel
theorem dX10_pay_134 : decode cX10_pay 134 = .ok (.invokestatic 150, 3) := by decide +kernel
theorem dX10_pay_137 : decode cX10_pay 137 = .ok (.iastore, 1) := by decide +kernel
theorem dX10_pay_138 : decode cX10_pay 138 = .ok (.iload 4, 2) := by decide +kernel
theorem dX10_pay_140 : decode cX10_pay 140 = .ok (.iload_n 3, 1) := by decide +kernel
theorem dX10_pay_141 : decode cX10_pay 141 = .ok (.isub, 1) := by decide +kernel
theorem dX10_pay_142 : decode cX10_pay 142 = .ok (.ireturn, 1) := by decide +kernel
theorem dX10_refuses_0 : decode cX10_refuses 0 = .ok (.iload_n 1, 1) := by decide +kernel
theorem dX10_refuses_1 : decode cX10_refuses 1 = .ok (.i2l, 1) := by decide +kernel
theorem dX10_refuses_2 : decode cX10_refuses 2 = .ok (.lconst 1, 1) := by decide +kernel
theorem dX10_refuses_3 : decode cX10_refuses 3 = .ok (.ldc2_w 203, 3) := by decide +kernel
theorem dX10_refuses_6 : decode cX10_refuses 6 = .ok (.invokestatic 65, 3) := by decide +kernel
theorem dX10_refuses_9 : decode cX10_refuses 9 = .ok (.ifCond .ne 6, 3) := by decide +kernel
theorem dX10_refuses_12 : decode cX10_refuses 12 = .ok (.ldc 80, 2) := by decide +kernel
theorem dX10_refuses_14 : decode cX10_refuses 14 = .ok (.ireturn, 1) := by decide +kernel
theorem dX10_refuses_15 : decode cX10_refuses 15 = .ok (.aload_n 0, 1) := by decide +kernel
theorem dX10_refuses_16 : decode cX10_refuses 16 = .ok (.getfield 7, 3) := by decide +kernel
theorem dX10_refuses_19 : decode cX10_refuses 19 = .ok (.iconst 0, 1) := by decide +kernel
theorem dX10_refuses_20 : decode cX10_refuses 20 = .ok (.iaload, 1) := by decide +kernel
theorem dX10_refuses_21 : decode cX10_refuses 21 = .ok (.ifCond .ne 8, 3) := by decide +kernel
theorem dX10_refuses_24 : decode cX10_refuses 24 = .ok (.ldc 193, 2) := by decide +kernel
theorem dX10_refuses_26 : decode cX10_refuses 26 = .ok (.goto 22, 3) := by decide +kernel
theorem dX10_refuses_29 : decode cX10_refuses 29 = .ok (.aload_n 0, 1) := by decide +kernel
theorem dX10_refuses_30 : decode cX10_refuses 30 = .ok (.getfield 16, 3) := by decide +kernel
theorem dX10_refuses_33 : decode cX10_refuses 33 = .ok (.bipush 53, 2) := by decide +kernel
theorem dX10_refuses_35 : decode cX10_refuses 35 = .ok (.iaload, 1) := by decide +kernel
theorem dX10_refuses_36 : decode cX10_refuses 36 = .ok (.sipush 9000, 3) := by decide +kernel
theorem dX10_refuses_39 : decode cX10_refuses 39 = .ok (.if_icmp .le 8, 3) := by decide +kernel
theorem dX10_refuses_42 : decode cX10_refuses 42 = .ok (.ldc 84, 2) := by decide +kernel
theorem dX10_refuses_44 : decode cX10_refuses 44 = .ok (.goto 4, 3) := by decide +kernel
theorem dX10_refuses_47 : decode cX10_refuses 47 = .ok (.iconst 0, 1) := by decide +kernel
theorem dX10_refuses_48 : decode cX10_refuses 48 = .ok (.ireturn, 1) := by decide +kernel
theorem dX10_quarter_0 : decode cX10_quarter 0 = .ok (.aload_n 0, 1) := by decide +kernel
theorem dX10_quarter_1 : decode cX10_quarter 1 = .ok (.iload_n 1, 1) := by decide +kernel
theorem dX10_quarter_2 : decode cX10_quarter 2 = .ok (.invokevirtual 205, 3) := by decide +kernel
theorem dX10_quarter_5 : decode cX10_quarter 5 = .ok (.istore_n 2, 1) := by decide +kernel
theorem dX10_quarter_6 : decode cX10_quarter 6 = .ok (.iload_n 2, 1) := by decide +kernel
theorem dX10_quarter_7 : decode cX10_quarter 7 = .ok (.ifCond .eq 5, 3) := by decide +kernel
theorem dX10_quarter_10 : decode cX10_quarter 10 = .ok (.iload_n 2, 1) := by decide +kernel
theorem dX10_quarter_11 : decode cX10_quarter 11 = .ok (.ireturn, 1) := by decide +kernel
theorem dX10_quarter_12 : decode cX10_quarter 12 = .ok (.aload_n 0, 1) := by decide +kernel
theorem dX10_quarter_13 : decode cX10_quarter 13 = .ok (.getfield 16, 3) := by decide +kernel
theorem dX10_quarter_16 : decode cX10_quarter 16 = .ok (.bipush 52, 2) := by decide +kernel
theorem dX10_quarter_18 : decode cX10_quarter 18 = .ok (.iaload, 1) := by decide +kernel
theorem dX10_quarter_19 : decode cX10_quarter 19 = .ok (.istore_n 3, 1) := by decide +kernel
theorem dX10_quarter_20 : decode cX10_quarter 20 = .ok (.iconst 0, 1) := by decide +kernel
theorem dX10_quarter_21 : decode cX10_quarter 21 = .ok (.istore 4, 2) := by decide +kernel
theorem dX10_quarter_23 : decode cX10_quarter 23 = .ok (.iload 4, 2) := by decide +kernel
theorem dX10_quarter_25 : decode cX10_quarter 25 = .ok (.iload_n 1, 1) := by decide +kernel
theorem dX10_quarter_26 : decode cX10_quarter 26 = .ok (.if_icmp .ge 21, 3) := by decide +kernel
theorem dX10_quarter_29 : decode cX10_quarter 29 = .ok (.aload_n 0, 1) := by decide +kernel
theorem dX10_quarter_30 : decode cX10_quarter 30 = .ok (.invokevirtual 194, 3) := by decide +kernel
theorem dX10_quarter_33 : decode cX10_quarter 33 = .ok (.aload_n 0, 1) := by decide +kernel
theorem dX10_quarter_34 : decode cX10_quarter 34 = .ok (.aload_n 0, 1) := by decide +kernel
theorem dX10_quarter_35 : decode cX10_quarter 35 = .ok (.getfield 16, 3) := by decide +kernel
theorem dX10_quarter_38 : decode cX10_quarter 38 = .ok (.invokevirtual 208, 3) := by decide +kernel
theorem dX10_quarter_41 : decode cX10_quarter 41 = .ok (.iinc 4 1, 3) := by decide +kernel
theorem dX10_quarter_44 : decode cX10_quarter 44 = .ok (.goto (-21), 3) := by decide +kernel
theorem dX10_quarter_47 : decode cX10_quarter 47 = .ok (.aload_n 0, 1) := by decide +kernel
theorem dX10_quarter_48 : decode cX10_quarter 48 = .ok (.getfield 16, 3) := by decide +kernel
theorem dX10_quarter_51 : decode cX10_quarter 51 = .ok (.bipush 52, 2) := by decide +kernel
theorem dX10_quarter_53 : decode cX10_quarter 53 = .ok (.iaload, 1) := by decide +kernel
theorem dX10_quarter_54 : decode cX10_quarter 54 = .ok (.iload_n 3, 1) := by decide +kernel
theorem dX10_quarter_55 : decode cX10_quarter 55 = .ok (.iconst (-1), 1) := by decide +kernel
theorem dX10_quarter_56 : decode cX10_quarter 56 = .ok (.ixor, 1) := by decide +kernel
theorem dX10_quarter_57 : decode cX10_quarter 57 = .ok (.iand, 1) := by decide +kernel
theorem dX10_quarter_58 : decode cX10_quarter 58 = .ok (.invokestatic 212, 3) := by decide +kernel
theorem dX10_quarter_61 : decode cX10_quarter 61 = .ok (.ireturn, 1) := by decide +kernel
theorem dX10_areApart_0 : decode cX10_areApart 0 = .ok (.aload_n 0, 1) := by decide +kernel
theorem dX10_areApart_1 : decode cX10_areApart 1 = .ok (.getfield 16, 3) := by decide +kernel
theorem dX10_areApart_4 : decode cX10_areApart 4 = .ok (.bipush 44, 2) := by decide +kernel
theorem dX10_areApart_6 : decode cX10_areApart 6 = .ok (.iload_n 1, 1) := by decide +kernel
theorem dX10_areApart_7 : decode cX10_areApart 7 = .ok (.iadd, 1) := by decide +kernel
theorem dX10_areApart_8 : decode cX10_areApart 8 = .ok (.iaload, 1) := by decide +kernel
theorem dX10_areApart_9 : decode cX10_areApart 9 = .ok (.iconst (-1), 1) := by decide +kernel
theorem dX10_areApart_10 : decode cX10_areApart 10 = .ok (.if_icmp .ne 20, 3) := by decide +kernel
theorem dX10_areApart_13 : decode cX10_areApart 13 = .ok (.aload_n 0, 1) := by decide +kernel
theorem dX10_areApart_14 : decode cX10_areApart 14 = .ok (.getfield 16, 3) := by decide +kernel
theorem dX10_areApart_17 : decode cX10_areApart 17 = .ok (.bipush 44, 2) := by decide +kernel
theorem dX10_areApart_19 : decode cX10_areApart 19 = .ok (.iload_n 2, 1) := by decide +kernel
theorem dX10_areApart_20 : decode cX10_areApart 20 = .ok (.iadd, 1) := by decide +kernel
theorem dX10_areApart_21 : decode cX10_areApart 21 = .ok (.iaload, 1) := by decide +kernel
theorem dX10_areApart_22 : decode cX10_areApart 22 = .ok (.iconst (-1), 1) := by decide +kernel
theorem dX10_areApart_23 : decode cX10_areApart 23 = .ok (.if_icmp .ne 7, 3) := by decide +kernel
theorem dX10_areApart_26 : decode cX10_areApart 26 = .ok (.iconst 1, 1) := by decide +kernel
theorem dX10_areApart_27 : decode cX10_areApart 27 = .ok (.goto 4, 3) := by decide +kernel
theorem dX10_areApart_30 : decode cX10_areApart 30 = .ok (.iconst 0, 1) := by decide +kernel
theorem dX10_areApart_31 : decode cX10_areApart 31 = .ok (.ireturn, 1) := by decide +kernel
theorem dX10_wed_0 : decode cX10_wed 0 = .ok (.aload_n 0, 1) := by decide +kernel
theorem dX10_wed_1 : decode cX10_wed 1 = .ok (.iload_n 1, 1) := by decide +kernel
theorem dX10_wed_2 : decode cX10_wed 2 = .ok (.invokevirtual 215, 3) := by decide +kernel
theorem dX10_wed_5 : decode cX10_wed 5 = .ok (.ifCond .eq 11, 3) := by decide +kernel
theorem dX10_wed_8 : decode cX10_wed 8 = .ok (.aload_n 0, 1) := by decide +kernel
theorem dX10_wed_9 : decode cX10_wed 9 = .ok (.iload_n 2, 1) := by decide +kernel
theorem dX10_wed_10 : decode cX10_wed 10 = .ok (.invokevirtual 182, 3) := by decide +kernel
theorem dX10_wed_13 : decode cX10_wed 13 = .ok (.ifCond .ne 6, 3) := by decide +kernel
theorem dX10_wed_16 : decode cX10_wed 16 = .ok (.ldc 175, 2) := by decide +kernel
theorem dX10_wed_18 : decode cX10_wed 18 = .ok (.ireturn, 1) := by decide +kernel
theorem dX10_wed_19 : decode cX10_wed 19 = .ok (.aload_n 0, 1) := by decide +kernel
theorem dX10_wed_20 : decode cX10_wed 20 = .ok (.iload_n 1, 1) := by decide +kernel
theorem dX10_wed_21 : decode cX10_wed 21 = .ok (.iload_n 2, 1) := by decide +kernel
theorem dX10_wed_22 : decode cX10_wed 22 = .ok (.invokevirtual 218, 3) := by decide +kernel
theorem dX10_wed_25 : decode cX10_wed 25 = .ok (.ifCond .ne 6, 3) := by decide +kernel
theorem dX10_wed_28 : decode cX10_wed 28 = .ok (.ldc 193, 2) := by decide +kernel
theorem dX10_wed_30 : decode cX10_wed 30 = .ok (.ireturn, 1) := by decide +kernel
theorem dX10_wed_31 : decode cX10_wed 31 = .ok (.aload_n 0, 1) := by decide +kernel
theorem dX10_wed_32 : decode cX10_wed 32 = .ok (.invokevirtual 194, 3) := by decide +kernel
theorem dX10_wed_35 : decode cX10_wed 35 = .ok (.aload_n 0, 1) := by decide +kernel
theorem dX10_wed_36 : decode cX10_wed 36 = .ok (.aload_n 0, 1) := by decide +kernel
theorem dX10_wed_37 : decode cX10_wed 37 = .ok (.getfield 16, 3) := by decide +kernel
theorem dX10_wed_40 : decode cX10_wed 40 = .ok (.iload_n 1, 1) := by decide +kernel
theorem dX10_wed_41 : decode cX10_wed 41 = .ok (.iload_n 2, 1) := by decide +kernel
theorem dX10_wed_42 : decode cX10_wed 42 = .ok (.invokevirtual 221, 3) := by decide +kernel
theorem dX10_wed_45 : decode cX10_wed 45 = .ok (.aload_n 0, 1) := by decide +kernel
theorem dX10_wed_46 : decode cX10_wed 46 = .ok (.aload_n 0, 1) := by decide +kernel
theorem dX10_wed_47 : decode cX10_wed 47 = .ok (.getfield 16, 3) := by decide +kernel
theorem dX10_wed_50 : decode cX10_wed 50 = .ok (.iload_n 1, 1) := by decide +kernel
theorem dX10_wed_51 : decode cX10_wed 51 = .ok (.invokevirtual 179, 3) := by decide +kernel
theorem dX10_wed_54 : decode cX10_wed 54 = .ok (.bipush 10, 2) := by decide +kernel
theorem dX10_wed_56 : decode cX10_wed 56 = .ok (.iadd, 1) := by decide +kernel
theorem dX10_wed_57 : decode cX10_wed 57 = .ok (.ireturn, 1) := by decide +kernel
theorem dX10_divorce_0 : decode cX10_divorce 0 = .ok (.aload_n 0, 1) := by decide +kernel
theorem dX10_divorce_1 : decode cX10_divorce 1 = .ok (.iload_n 1, 1) := by decide +kernel
theorem dX10_divorce_2 : decode cX10_divorce 2 = .ok (.invokevirtual 215, 3) := by decide +kernel
theorem dX10_divorce_5 : decode cX10_divorce 5 = .ok (.ifCond .ne 6, 3) := by decide +kernel
theorem dX10_divorce_8 : decode cX10_divorce 8 = .ok (.ldc 175, 2) := by decide +kernel
theorem dX10_divorce_10 : decode cX10_divorce 10 = .ok (.ireturn, 1) := by decide +kernel
theorem dX10_divorce_11 : decode cX10_divorce 11 = .ok (.aload_n 0, 1) := by decide +kernel
theorem dX10_divorce_12 : decode cX10_divorce 12 = .ok (.getfield 16, 3) := by decide +kernel
theorem dX10_divorce_15 : decode cX10_divorce 15 = .ok (.bipush 44, 2) := by decide +kernel
theorem dX10_divorce_17 : decode cX10_divorce 17 = .ok (.iload_n 1, 1) := by decide +kernel
theorem dX10_divorce_18 : decode cX10_divorce 18 = .ok (.iadd, 1) := by decide +kernel
theorem dX10_divorce_19 : decode cX10_divorce 19 = .ok (.iaload, 1) := by decide +kernel
theorem dX10_divorce_20 : decode cX10_divorce 20 = .ok (.istore_n 2, 1) := by decide +kernel
theorem dX10_divorce_21 : decode cX10_divorce 21 = .ok (.iload_n 2, 1) := by decide +kernel
theorem dX10_divorce_22 : decode cX10_divorce 22 = .ok (.iconst (-1), 1) := by decide +kernel
theorem dX10_divorce_23 : decode cX10_divorce 23 = .ok (.if_icmp .ne 6, 3) := by decide +kernel
theorem dX10_divorce_26 : decode cX10_divorce 26 = .ok (.ldc 193, 2) := by decide +kernel
theorem dX10_divorce_28 : decode cX10_divorce 28 = .ok (.ireturn, 1) := by decide +kernel
theorem dX10_divorce_29 : decode cX10_divorce 29 = .ok (.aload_n 0, 1) := by decide +kernel
theorem dX10_divorce_30 : decode cX10_divorce 30 = .ok (.invokevirtual 194, 3) := by decide +kernel
theorem dX10_divorce_33 : decode cX10_divorce 33 = .ok (.iconst 0, 1) := by decide +kernel
theorem dX10_divorce_34 : decode cX10_divorce 34 = .ok (.istore_n 3, 1) := by decide +kernel
theorem dX10_divorce_35 : decode cX10_divorce 35 = .ok (.iload_n 3, 1) := by decide +kernel
theorem dX10_divorce_36 : decode cX10_divorce 36 = .ok (.iconst 4, 1) := by decide +kernel
theorem dX10_divorce_37 : decode cX10_divorce 37 = .ok (.if_icmp .ge 56, 3) := by decide +kernel
theorem dX10_divorce_40 : decode cX10_divorce 40 = .ok (.aload_n 0, 1) := by decide +kernel
theorem dX10_divorce_41 : decode cX10_divorce 41 = .ok (.getfield 16, 3) := by decide +kernel
theorem dX10_divorce_44 : decode cX10_divorce 44 = .ok (.iconst 0, 1) := by decide +kernel
theorem dX10_divorce_45 : decode cX10_divorce 45 = .ok (.iconst 4, 1) := by decide +kernel
theorem dX10_divorce_46 : decode cX10_divorce 46 = .ok (.iload_n 1, 1) := by decide +kernel
theorem dX10_divorce_47 : decode cX10_divorce 47 = .ok (.imul, 1) := by decide +kernel
theorem dX10_divorce_48 : decode cX10_divorce 48 = .ok (.iadd, 1) := by decide +kernel
theorem dX10_divorce_49 : decode cX10_divorce 49 = .ok (.iload_n 3, 1) := by decide +kernel
theorem dX10_divorce_50 : decode cX10_divorce 50 = .ok (.iadd, 1) := by decide +kernel
theorem dX10_divorce_51 : decode cX10_divorce 51 = .ok (.iaload, 1) := by decide +kernel
theorem dX10_divorce_52 : decode cX10_divorce 52 = .ok (.iconst 2, 1) := by decide +kernel
theorem dX10_divorce_53 : decode cX10_divorce 53 = .ok (.idiv, 1) := by decide +kernel
theorem dX10_divorce_54 : decode cX10_divorce 54 = .ok (.istore 4, 2) := by decide +kernel
theorem dX10_divorce_56 : decode cX10_divorce 56 = .ok (.aload_n 0, 1) := by decide +kernel
theorem dX10_divorce_57 : decode cX10_divorce 57 = .ok (.getfield 16, 3) := by decide +kernel
theorem dX10_divorce_60 : decode cX10_divorce 60 = .ok (.iconst 0, 1) := by decide +kernel
theorem dX10_divorce_61 : decode cX10_divorce 61 = .ok (.iconst 4, 1) := by decide +kernel
theorem dX10_divorce_62 : decode cX10_divorce 62 = .ok (.iload_n 2, 1) := by decide +kernel
theorem dX10_divorce_63 : decode cX10_divorce 63 = .ok (.imul, 1) := by decide +kernel
theorem dX10_divorce_64 : decode cX10_divorce 64 = .ok (.iadd, 1) := by decide +kernel
theorem dX10_divorce_65 : decode cX10_divorce 65 = .ok (.iload_n 3, 1) := by decide +kernel
theorem dX10_divorce_66 : decode cX10_divorce 66 = .ok (.iadd, 1) := by decide +kernel
theorem dX10_divorce_67 : decode cX10_divorce 67 = .ok (.iload 4, 2) := by decide +kernel
theorem dX10_divorce_69 : decode cX10_divorce 69 = .ok (.iastore, 1) := by decide +kernel
theorem dX10_divorce_70 : decode cX10_divorce 70 = .ok (.aload_n 0, 1) := by decide +kernel
theorem dX10_divorce_71 : decode cX10_divorce 71 = .ok (.getfield 16, 3) := by decide +kernel
theorem dX10_divorce_74 : decode cX10_divorce 74 = .ok (.iconst 0, 1) := by decide +kernel
theorem dX10_divorce_75 : decode cX10_divorce 75 = .ok (.iconst 4, 1) := by decide +kernel
theorem dX10_divorce_76 : decode cX10_divorce 76 = .ok (.iload_n 1, 1) := by decide +kernel
theorem dX10_divorce_77 : decode cX10_divorce 77 = .ok (.imul, 1) := by decide +kernel
theorem dX10_divorce_78 : decode cX10_divorce 78 = .ok (.iadd, 1) := by decide +kernel
theorem dX10_divorce_79 : decode cX10_divorce 79 = .ok (.iload_n 3, 1) := by decide +kernel
theorem dX10_divorce_80 : decode cX10_divorce 80 = .ok (.iadd, 1) := by decide +kernel
theorem dX10_divorce_81 : decode cX10_divorce 81 = .ok (.dup2, 1) := by decide +kernel
theorem dX10_divorce_82 : decode cX10_divorce 82 = .ok (.iaload, 1) := by decide +kernel
theorem dX10_divorce_83 : decode cX10_divorce 83 = .ok (.iload 4, 2) := by decide +kernel
theorem dX10_divorce_85 : decode cX10_divorce 85 = .ok (.isub, 1) := by decide +kernel
theorem dX10_divorce_86 : decode cX10_divorce 86 = .ok (.iastore, 1) := by decide +kernel
theorem dX10_divorce_87 : decode cX10_divorce 87 = .ok (.iinc 3 1, 3) := by decide +kernel
theorem dX10_divorce_90 : decode cX10_divorce 90 = .ok (.goto (-55), 3) := by decide +kernel
theorem dX10_divorce_93 : decode cX10_divorce 93 = .ok (.aload_n 0, 1) := by decide +kernel
theorem dX10_divorce_94 : decode cX10_divorce 94 = .ok (.getfield 16, 3) := by decide +kernel
theorem dX10_divorce_97 : decode cX10_divorce 97 = .ok (.bipush 36, 2) := by decide +kernel
theorem dX10_divorce_99 : decode cX10_divorce 99 = .ok (.iload_n 2, 1) := by decide +kernel
theorem dX10_divorce_100 : decode cX10_divorce 100 = .ok (.iadd, 1) := by decide +kernel
theorem dX10_divorce_101 : decode cX10_divorce 101 = .ok (.aload_n 0, 1) := by decide +kernel
theorem dX10_divorce_102 : decode cX10_divorce 102 = .ok (.getfield 16, 3) := by decide +kernel
theorem dX10_divorce_105 : decode cX10_divorce 105 = .ok (.bipush 36, 2) := by decide +kernel
theorem dX10_divorce_107 : decode cX10_divorce 107 = .ok (.iload_n 1, 1) := by decide +kernel
theorem dX10_divorce_108 : decode cX10_divorce 108 = .ok (.iadd, 1) := by decide +kernel
theorem dX10_divorce_109 : decode cX10_divorce 109 = .ok (.iaload, 1) := by decide +kernel
theorem dX10_divorce_110 : decode cX10_divorce 110 = .ok (.iastore, 1) := by decide +kernel
theorem dX10_divorce_111 : decode cX10_divorce 111 = .ok (.aload_n 0, 1) := by decide +kernel
theorem dX10_divorce_112 : decode cX10_divorce 112 = .ok (.getfield 16, 3) := by decide +kernel
theorem dX10_divorce_115 : decode cX10_divorce 115 = .ok (.bipush 44, 2) := by decide +kernel
theorem dX10_divorce_117 : decode cX10_divorce 117 = .ok (.iload_n 1, 1) := by decide +kernel
theorem dX10_divorce_118 : decode cX10_divorce 118 = .ok (.iadd, 1) := by decide +kernel
theorem dX10_divorce_119 : decode cX10_divorce 119 = .ok (.iconst (-1), 1) := by decide +kernel
theorem dX10_divorce_120 : decode cX10_divorce 120 = .ok (.iastore, 1) := by decide +kernel
theorem dX10_divorce_121 : decode cX10_divorce 121 = .ok (.aload_n 0, 1) := by decide +kernel
theorem dX10_divorce_122 : decode cX10_divorce 122 = .ok (.getfield 16, 3) := by decide +kernel
theorem dX10_divorce_125 : decode cX10_divorce 125 = .ok (.bipush 44, 2) := by decide +kernel
theorem dX10_divorce_127 : decode cX10_divorce 127 = .ok (.iload_n 2, 1) := by decide +kernel
theorem dX10_divorce_128 : decode cX10_divorce 128 = .ok (.iadd, 1) := by decide +kernel
theorem dX10_divorce_129 : decode cX10_divorce 129 = .ok (.iconst (-1), 1) := by decide +kernel
theorem dX10_divorce_130 : decode cX10_divorce 130 = .ok (.iastore, 1) := by decide +kernel
theorem dX10_divorce_131 : decode cX10_divorce 131 = .ok (.aload_n 0, 1) := by decide +kernel
theorem dX10_divorce_132 : decode cX10_divorce 132 = .ok (.aload_n 0, 1) := by decide +kernel
theorem dX10_divorce_133 : decode cX10_divorce 133 = .ok (.getfield 16, 3) := by decide +kernel
theorem dX10_divorce_136 : decode cX10_divorce 136 = .ok (.iload_n 2, 1) := by decide +kernel
theorem dX10_divorce_137 : decode cX10_divorce 137 = .ok (.invokevirtual 162, 3) := by decide +kernel
theorem dX10_divorce_140 : decode cX10_divorce 140 = .ok (.ireturn, 1) := by decide +kernel
theorem dX10_draw_0 : decode cX10_draw 0 = .ok (.aload_n 0, 1) := by decide +kernel
theorem dX10_draw_1 : decode cX10_draw 1 = .ok (.aload_n 0, 1) := by decide +kernel
theorem dX10_draw_2 : decode cX10_draw 2 = .ok (.getfield 225, 3) := by decide +kernel
theorem dX10_draw_5 : decode cX10_draw 5 = .ok (.ldc2_w 229, 3) := by decide +kernel
theorem dX10_draw_8 : decode cX10_draw 8 = .ok (.lmul, 1) := by decide +kernel
theorem dX10_draw_9 : decode cX10_draw 9 = .ok (.ldc2_w 231, 3) := by decide +kernel
theorem dX10_draw_12 : decode cX10_draw 12 = .ok (.ladd, 1) := by decide +kernel
theorem dX10_draw_13 : decode cX10_draw 13 = .ok (.ldc2_w 233, 3) := by decide +kernel
theorem dX10_draw_16 : decode cX10_draw 16 = .ok (.lrem, 1) := by decide +kernel
theorem dX10_draw_17 : decode cX10_draw 17 = .ok (.putfield 225, 3) := by decide +kernel
theorem dX10_draw_20 : decode cX10_draw 20 = .ok (.aload_n 0, 1) := by decide +kernel
theorem dX10_draw_21 : decode cX10_draw 21 = .ok (.getfield 225, 3) := by decide +kernel
theorem dX10_draw_24 : decode cX10_draw 24 = .ok (.ldc2_w 235, 3) := by decide +kernel
theorem dX10_draw_27 : decode cX10_draw 27 = .ok (.ldiv, 1) := by decide +kernel
theorem dX10_draw_28 : decode cX10_draw 28 = .ok (.iload_n 1, 1) := by decide +kernel
theorem dX10_draw_29 : decode cX10_draw 29 = .ok (.i2l, 1) := by decide +kernel
theorem dX10_draw_30 : decode cX10_draw 30 = .ok (.lrem, 1) := by decide +kernel
theorem dX10_draw_31 : decode cX10_draw 31 = .ok (.l2i, 1) := by decide +kernel
theorem dX10_draw_32 : decode cX10_draw 32 = .ok (.ireturn, 1) := by decide +kernel
theorem dX10_drift_0 : decode cX10_drift 0 = .ok (.aload_n 0, 1) := by decide +kernel
theorem dX10_drift_1 : decode cX10_drift 1 = .ok (.iload_n 1, 1) := by decide +kernel
theorem dX10_drift_2 : decode cX10_drift 2 = .ok (.invokevirtual 205, 3) := by decide +kernel
theorem dX10_drift_5 : decode cX10_drift 5 = .ok (.istore_n 2, 1) := by decide +kernel
theorem dX10_drift_6 : decode cX10_drift 6 = .ok (.iload_n 2, 1) := by decide +kernel
theorem dX10_drift_7 : decode cX10_drift 7 = .ok (.ifCond .eq 5, 3) := by decide +kernel
theorem dX10_drift_10 : decode cX10_drift 10 = .ok (.iload_n 2, 1) := by decide +kernel
theorem dX10_drift_11 : decode cX10_drift 11 = .ok (.ireturn, 1) := by decide +kernel
theorem dX10_drift_12 : decode cX10_drift 12 = .ok (.iconst 0, 1) := by decide +kernel
theorem dX10_drift_13 : decode cX10_drift 13 = .ok (.istore_n 3, 1) := by decide +kernel
theorem dX10_drift_14 : decode cX10_drift 14 = .ok (.iload_n 3, 1) := by decide +kernel
theorem dX10_drift_15 : decode cX10_drift 15 = .ok (.iload_n 1, 1) := by decide +kernel
theorem dX10_drift_16 : decode cX10_drift 16 = .ok (.if_icmp .ge 90, 3) := by decide +kernel
theorem dX10_drift_19 : decode cX10_drift 19 = .ok (.aload_n 0, 1) := by decide +kernel
theorem dX10_drift_20 : decode cX10_drift 20 = .ok (.invokevirtual 194, 3) := by decide +kernel
theorem dX10_drift_23 : decode cX10_drift 23 = .ok (.aload_n 0, 1) := by decide +kernel
theorem dX10_drift_24 : decode cX10_drift 24 = .ok (.getfield 7, 3) := by decide +kernel
theorem dX10_drift_27 : decode cX10_drift 27 = .ok (.iconst 4, 1) := by decide +kernel
theorem dX10_drift_28 : decode cX10_drift 28 = .ok (.iaload, 1) := by decide +kernel
theorem dX10_drift_29 : decode cX10_drift 29 = .ok (.ifCond .le 63, 3) := by decide +kernel
theorem dX10_drift_32 : decode cX10_drift 32 = .ok (.aload_n 0, 1) := by decide +kernel
theorem dX10_drift_33 : decode cX10_drift 33 = .ok (.aload_n 0, 1) := by decide +kernel
theorem dX10_drift_34 : decode cX10_drift 34 = .ok (.getfield 7, 3) := by decide +kernel
theorem dX10_drift_37 : decode cX10_drift 37 = .ok (.iconst 4, 1) := by decide +kernel
theorem dX10_drift_38 : decode cX10_drift 38 = .ok (.iaload, 1) := by decide +kernel
theorem dX10_drift_39 : decode cX10_drift 39 = .ok (.invokevirtual 237, 3) := by decide +kernel
theorem dX10_drift_42 : decode cX10_drift 42 = .ok (.istore 4, 2) := by decide +kernel
theorem dX10_drift_44 : decode cX10_drift 44 = .ok (.aload_n 0, 1) := by decide +kernel
theorem dX10_drift_45 : decode cX10_drift 45 = .ok (.aload_n 0, 1) := by decide +kernel
theorem dX10_drift_46 : decode cX10_drift 46 = .ok (.getfield 7, 3) := by decide +kernel
theorem dX10_drift_49 : decode cX10_drift 49 = .ok (.iconst 3, 1) := by decide +kernel
theorem dX10_drift_50 : decode cX10_drift 50 = .ok (.iaload, 1) := by decide +kernel
theorem dX10_drift_51 : decode cX10_drift 51 = .ok (.invokevirtual 237, 3) := by decide +kernel
theorem dX10_drift_54 : decode cX10_drift 54 = .ok (.istore 5, 2) := by decide +kernel
theorem dX10_drift_56 : decode cX10_drift 56 = .ok (.aload_n 0, 1) := by decide +kernel
theorem dX10_drift_57 : decode cX10_drift 57 = .ok (.bipush 100, 2) := by decide +kernel
theorem dX10_drift_59 : decode cX10_drift 59 = .ok (.invokevirtual 237, 3) := by decide +kernel
theorem dX10_drift_62 : decode cX10_drift 62 = .ok (.istore 6, 2) := by decide +kernel
theorem dX10_drift_64 : decode cX10_drift 64 = .ok (.iload 6, 2) := by decide +kernel
theorem dX10_drift_66 : decode cX10_drift 66 = .ok (.ifCond .le 26, 3) := by decide +kernel
theorem dX10_drift_69 : decode cX10_drift 69 = .ok (.aload_n 0, 1) := by decide +kernel
theorem dX10_drift_70 : decode cX10_drift 70 = .ok (.iload 4, 2) := by decide +kernel
theorem dX10_drift_72 : decode cX10_drift 72 = .ok (.iload 5, 2) := by decide +kernel
theorem dX10_drift_74 : decode cX10_drift 74 = .ok (.iload 6, 2) := by decide +kernel
theorem dX10_drift_76 : decode cX10_drift 76 = .ok (.invokevirtual 190, 3) := by decide +kernel
theorem dX10_drift_79 : decode cX10_drift 79 = .ok (.ifCond .eq 13, 3) := by decide +kernel
theorem dX10_drift_82 : decode cX10_drift 82 = .ok (.aload_n 0, 1) := by decide +kernel
theorem dX10_drift_83 : decode cX10_drift 83 = .ok (.iload 4, 2) := by decide +kernel
theorem dX10_drift_85 : decode cX10_drift 85 = .ok (.iload 5, 2) := by decide +kernel
theorem dX10_drift_87 : decode cX10_drift 87 = .ok (.iload 6, 2) := by decide +kernel
theorem dX10_drift_89 : decode cX10_drift 89 = .ok (.invokevirtual 197, 3) := by decide +kernel
theorem dX10_drift_92 : decode cX10_drift 92 = .ok (.aload_n 0, 1) := by decide +kernel
theorem dX10_drift_93 : decode cX10_drift 93 = .ok (.aload_n 0, 1) := by decide +kernel
theorem dX10_drift_94 : decode cX10_drift 94 = .ok (.getfield 16, 3) := by decide +kernel
theorem dX10_drift_97 : decode cX10_drift 97 = .ok (.invokevirtual 208, 3) := by decide +kernel
theorem dX10_drift_100 : decode cX10_drift 100 = .ok (.iinc 3 1, 3) := by decide +kernel
theorem dX10_drift_103 : decode cX10_drift 103 = .ok (.goto (-89), 3) := by decide +kernel
theorem dX10_drift_106 : decode cX10_drift 106 = .ok (.aload_n 0, 1) := by decide +kernel
theorem dX10_drift_107 : decode cX10_drift 107 = .ok (.invokevirtual 169, 3) := by decide +kernel
theorem dX10_drift_110 : decode cX10_drift 110 = .ok (.ireturn, 1) := by decide +kernel
theorem dX10_undo_0 : decode cX10_undo 0 = .ok (.iload_n 1, 1) := by decide +kernel
theorem dX10_undo_1 : decode cX10_undo 1 = .ok (.i2l, 1) := by decide +kernel
theorem dX10_undo_2 : decode cX10_undo 2 = .ok (.lconst 1, 1) := by decide +kernel
theorem dX10_undo_3 : decode cX10_undo 3 = .ok (.ldc2_w 240, 3) := by decide +kernel
theorem dX10_undo_6 : decode cX10_undo 6 = .ok (.invokestatic 65, 3) := by decide +kernel
theorem dX10_undo_9 : decode cX10_undo 9 = .ok (.ifCond .ne 6, 3) := by decide +kernel
theorem dX10_undo_12 : decode cX10_undo 12 = .ok (.ldc 80, 2) := by decide +kernel
theorem dX10_undo_14 : decode cX10_undo 14 = .ok (.ireturn, 1) := by decide +kernel
theorem dX10_undo_15 : decode cX10_undo 15 = .ok (.aload_n 0, 1) := by decide +kernel
theorem dX10_undo_16 : decode cX10_undo 16 = .ok (.getfield 69, 3) := by decide +kernel
theorem dX10_undo_19 : decode cX10_undo 19 = .ok (.iload_n 1, 1) := by decide +kernel
theorem dX10_undo_20 : decode cX10_undo 20 = .ok (.if_icmp .ge 6, 3) := by decide +kernel
theorem dX10_undo_23 : decode cX10_undo 23 = .ok (.ldc 193, 2) := by decide +kernel
theorem dX10_undo_25 : decode cX10_undo 25 = .ok (.ireturn, 1) := by decide +kernel
theorem dX10_undo_26 : decode cX10_undo 26 = .ok (.aload_n 0, 1) := by decide +kernel
theorem dX10_undo_27 : decode cX10_undo 27 = .ok (.dup, 1) := by decide +kernel
theorem dX10_undo_28 : decode cX10_undo 28 = .ok (.getfield 69, 3) := by decide +kernel
theorem dX10_undo_31 : decode cX10_undo 31 = .ok (.iload_n 1, 1) := by decide +kernel
theorem dX10_undo_32 : decode cX10_undo 32 = .ok (.isub, 1) := by decide +kernel
theorem dX10_undo_33 : decode cX10_undo 33 = .ok (.putfield 69, 3) := by decide +kernel
theorem dX10_undo_36 : decode cX10_undo 36 = .ok (.aload_n 0, 1) := by decide +kernel
theorem dX10_undo_37 : decode cX10_undo 37 = .ok (.getfield 22, 3) := by decide +kernel
theorem dX10_undo_40 : decode cX10_undo 40 = .ok (.bipush 54, 2) := by decide +kernel
theorem dX10_undo_42 : decode cX10_undo 42 = .ok (.aload_n 0, 1) := by decide +kernel
theorem dX10_undo_43 : decode cX10_undo 43 = .ok (.getfield 69, 3) := by decide +kernel
theorem dX10_undo_46 : decode cX10_undo 46 = .ok (.imul, 1) := by decide +kernel
theorem dX10_undo_47 : decode cX10_undo 47 = .ok (.aload_n 0, 1) := by decide +kernel
theorem dX10_undo_48 : decode cX10_undo 48 = .ok (.getfield 16, 3) := by decide +kernel
theorem dX10_undo_51 : decode cX10_undo 51 = .ok (.iconst 0, 1) := by decide +kernel
theorem dX10_undo_52 : decode cX10_undo 52 = .ok (.bipush 54, 2) := by decide +kernel
theorem dX10_undo_54 : decode cX10_undo 54 = .ok (.invokestatic 57, 3) := by decide +kernel
theorem dX10_undo_57 : decode cX10_undo 57 = .ok (.aload_n 0, 1) := by decide +kernel
theorem dX10_undo_58 : decode cX10_undo 58 = .ok (.getfield 16, 3) := by decide +kernel
theorem dX10_undo_61 : decode cX10_undo 61 = .ok (.bipush 53, 2) := by decide +kernel
theorem dX10_undo_63 : decode cX10_undo 63 = .ok (.iaload, 1) := by decide +kernel
theorem dX10_undo_64 : decode cX10_undo 64 = .ok (.ireturn, 1) := by decide +kernel
theorem dX10_layAside_0 : decode cX10_layAside 0 = .ok (.aload_n 0, 1) := by decide +kernel
theorem dX10_layAside_1 : decode cX10_layAside 1 = .ok (.getfield 16, 3) := by decide +kernel
theorem dX10_layAside_4 : decode cX10_layAside 4 = .ok (.iconst 0, 1) := by decide +kernel
theorem dX10_layAside_5 : decode cX10_layAside 5 = .ok (.aload_n 0, 1) := by decide +kernel
theorem dX10_layAside_6 : decode cX10_layAside 6 = .ok (.getfield 19, 3) := by decide +kernel
theorem dX10_layAside_9 : decode cX10_layAside 9 = .ok (.iconst 0, 1) := by decide +kernel
theorem dX10_layAside_10 : decode cX10_layAside 10 = .ok (.bipush 54, 2) := by decide +kernel
theorem dX10_layAside_12 : decode cX10_layAside 12 = .ok (.invokestatic 57, 3) := by decide +kernel
theorem dX10_layAside_15 : decode cX10_layAside 15 = .ok (.return_, 1) := by decide +kernel
theorem dX10_joins_0 : decode cX10_joins 0 = .ok (.aload_n 0, 1) := by decide +kernel
theorem dX10_joins_1 : decode cX10_joins 1 = .ok (.invokevirtual 242, 3) := by decide +kernel
theorem dX10_joins_4 : decode cX10_joins 4 = .ok (.aload_n 0, 1) := by decide +kernel
theorem dX10_joins_5 : decode cX10_joins 5 = .ok (.aload_n 0, 1) := by decide +kernel
theorem dX10_joins_6 : decode cX10_joins 6 = .ok (.getfield 19, 3) := by decide +kernel
theorem dX10_joins_9 : decode cX10_joins 9 = .ok (.iload_n 1, 1) := by decide +kernel
theorem dX10_joins_10 : decode cX10_joins 10 = .ok (.iload_n 2, 1) := by decide +kernel
theorem dX10_joins_11 : decode cX10_joins 11 = .ok (.invokevirtual 221, 3) := by decide +kernel
theorem dX10_joins_14 : decode cX10_joins 14 = .ok (.aload_n 0, 1) := by decide +kernel
theorem dX10_joins_15 : decode cX10_joins 15 = .ok (.aload_n 0, 1) := by decide +kernel
theorem dX10_joins_16 : decode cX10_joins 16 = .ok (.getfield 19, 3) := by decide +kernel
theorem dX10_joins_19 : decode cX10_joins 19 = .ok (.iload_n 1, 1) := by decide +kernel
theorem dX10_joins_20 : decode cX10_joins 20 = .ok (.invokevirtual 179, 3) := by decide +kernel
theorem dX10_joins_23 : decode cX10_joins 23 = .ok (.ireturn, 1) := by decide +kernel
theorem dX10_joined_0 : decode cX10_joined 0 = .ok (.aload_n 0, 1) := by decide +kernel
theorem dX10_joined_1 : decode cX10_joined 1 = .ok (.iload_n 1, 1) := by decide +kernel
theorem dX10_joined_2 : decode cX10_joined 2 = .ok (.invokevirtual 215, 3) := by decide +kernel
theorem dX10_joined_5 : decode cX10_joined 5 = .ok (.ifCond .eq 11, 3) := by decide +kernel
theorem dX10_joined_8 : decode cX10_joined 8 = .ok (.aload_n 0, 1) := by decide +kernel
theorem dX10_joined_9 : decode cX10_joined 9 = .ok (.iload_n 2, 1) := by decide +kernel
theorem dX10_joined_10 : decode cX10_joined 10 = .ok (.invokevirtual 182, 3) := by decide +kernel
theorem dX10_joined_13 : decode cX10_joined 13 = .ok (.ifCond .ne 6, 3) := by decide +kernel
theorem dX10_joined_16 : decode cX10_joined 16 = .ok (.ldc 175, 2) := by decide +kernel
theorem dX10_joined_18 : decode cX10_joined 18 = .ok (.ireturn, 1) := by decide +kernel
theorem dX10_joined_19 : decode cX10_joined 19 = .ok (.aload_n 0, 1) := by decide +kernel
theorem dX10_joined_20 : decode cX10_joined 20 = .ok (.iload_n 1, 1) := by decide +kernel
theorem dX10_joined_21 : decode cX10_joined 21 = .ok (.iload_n 2, 1) := by decide +kernel
theorem dX10_joined_22 : decode cX10_joined 22 = .ok (.invokevirtual 218, 3) := by decide +kernel
theorem dX10_joined_25 : decode cX10_joined 25 = .ok (.ifCond .eq 15, 3) := by decide +kernel
theorem dX10_joined_28 : decode cX10_joined 28 = .ok (.aload_n 0, 1) := by decide +kernel
theorem dX10_joined_29 : decode cX10_joined 29 = .ok (.iload_n 1, 1) := by decide +kernel
theorem dX10_joined_30 : decode cX10_joined 30 = .ok (.iload_n 2, 1) := by decide +kernel
theorem dX10_joined_31 : decode cX10_joined 31 = .ok (.invokevirtual 245, 3) := by decide +kernel
theorem dX10_joined_34 : decode cX10_joined 34 = .ok (.bipush 10, 2) := by decide +kernel
theorem dX10_joined_36 : decode cX10_joined 36 = .ok (.iadd, 1) := by decide +kernel
theorem dX10_joined_37 : decode cX10_joined 37 = .ok (.goto 5, 3) := by decide +kernel
theorem dX10_joined_40 : decode cX10_joined 40 = .ok (.ldc 193, 2) := by decide +kernel
theorem dX10_joined_42 : decode cX10_joined 42 = .ok (.ireturn, 1) := by decide +kernel
theorem dX10_takes_0 : decode cX10_takes 0 = .ok (.iconst 0, 1) := by decide +kernel
theorem dX10_takes_1 : decode cX10_takes 1 = .ok (.istore_n 3, 1) := by decide +kernel
theorem dX10_takes_2 : decode cX10_takes 2 = .ok (.aload_n 0, 1) := by decide +kernel
theorem dX10_takes_3 : decode cX10_takes 3 = .ok (.invokevirtual 242, 3) := by decide +kernel
theorem dX10_takes_6 : decode cX10_takes 6 = .ok (.iconst 0, 1) := by decide +kernel
theorem dX10_takes_7 : decode cX10_takes 7 = .ok (.istore 4, 2) := by decide +kernel
theorem dX10_takes_9 : decode cX10_takes 9 = .ok (.iload 4, 2) := by decide +kernel
theorem dX10_takes_11 : decode cX10_takes 11 = .ok (.aload_n 0, 1) := by decide +kernel
theorem dX10_takes_12 : decode cX10_takes 12 = .ok (.getfield 7, 3) := by decide +kernel
theorem dX10_takes_15 : decode cX10_takes 15 = .ok (.iconst 3, 1) := by decide +kernel
theorem dX10_takes_16 : decode cX10_takes 16 = .ok (.iaload, 1) := by decide +kernel
theorem dX10_takes_17 : decode cX10_takes 17 = .ok (.if_icmp .ge 141, 3) := by decide +kernel
theorem dX10_takes_20 : decode cX10_takes 20 = .ok (.iload_n 2, 1) := by decide +kernel
theorem dX10_takes_21 : decode cX10_takes 21 = .ok (.iload 4, 2) := by decide +kernel
theorem dX10_takes_23 : decode cX10_takes 23 = .ok (.invokestatic 142, 3) := by decide +kernel
theorem dX10_takes_26 : decode cX10_takes 26 = .ok (.ifCond .eq 126, 3) := by decide +kernel
theorem dX10_takes_29 : decode cX10_takes 29 = .ok (.aload_n 0, 1) := by decide +kernel
theorem dX10_takes_30 : decode cX10_takes 30 = .ok (.getfield 7, 3) := by decide +kernel
theorem dX10_takes_33 : decode cX10_takes 33 = .ok (.bipush 9, 2) := by decide +kernel
theorem dX10_takes_35 : decode cX10_takes 35 = .ok (.iload 4, 2) := by decide +kernel
theorem dX10_takes_37 : decode cX10_takes 37 = .ok (.iadd, 1) := by decide +kernel
theorem dX10_takes_38 : decode cX10_takes 38 = .ok (.iaload, 1) := by decide +kernel
theorem dX10_takes_39 : decode cX10_takes 39 = .ok (.aload_n 0, 1) := by decide +kernel
theorem dX10_takes_40 : decode cX10_takes 40 = .ok (.getfield 16, 3) := by decide +kernel
theorem dX10_takes_43 : decode cX10_takes 43 = .ok (.iconst 0, 1) := by decide +kernel
theorem dX10_takes_44 : decode cX10_takes 44 = .ok (.iconst 4, 1) := by decide +kernel
theorem dX10_takes_45 : decode cX10_takes 45 = .ok (.iload_n 1, 1) := by decide +kernel
theorem dX10_takes_46 : decode cX10_takes 46 = .ok (.imul, 1) := by decide +kernel
theorem dX10_takes_47 : decode cX10_takes 47 = .ok (.iadd, 1) := by decide +kernel
theorem dX10_takes_48 : decode cX10_takes 48 = .ok (.iload 4, 2) := by decide +kernel
theorem dX10_takes_50 : decode cX10_takes 50 = .ok (.iadd, 1) := by decide +kernel
theorem dX10_takes_51 : decode cX10_takes 51 = .ok (.iaload, 1) := by decide +kernel
theorem dX10_takes_52 : decode cX10_takes 52 = .ok (.isub, 1) := by decide +kernel
theorem dX10_takes_53 : decode cX10_takes 53 = .ok (.istore 5, 2) := by decide +kernel
theorem dX10_takes_55 : decode cX10_takes 55 = .ok (.aload_n 0, 1) := by decide +kernel
theorem dX10_takes_56 : decode cX10_takes 56 = .ok (.getfield 16, 3) := by decide +kernel
theorem dX10_takes_59 : decode cX10_takes 59 = .ok (.bipush 52, 2) := by decide +kernel
theorem dX10_takes_61 : decode cX10_takes 61 = .ok (.iaload, 1) := by decide +kernel
theorem dX10_takes_62 : decode cX10_takes 62 = .ok (.iload 4, 2) := by decide +kernel
theorem dX10_takes_64 : decode cX10_takes 64 = .ok (.invokestatic 142, 3) := by decide +kernel
theorem dX10_takes_67 : decode cX10_takes 67 = .ok (.ifCond .ne 44, 3) := by decide +kernel
theorem dX10_takes_70 : decode cX10_takes 70 = .ok (.aload_n 0, 1) := by decide +kernel
theorem dX10_takes_71 : decode cX10_takes 71 = .ok (.getfield 16, 3) := by decide +kernel
theorem dX10_takes_74 : decode cX10_takes 74 = .ok (.bipush 36, 2) := by decide +kernel
theorem dX10_takes_76 : decode cX10_takes 76 = .ok (.iload_n 1, 1) := by decide +kernel
theorem dX10_takes_77 : decode cX10_takes 77 = .ok (.iadd, 1) := by decide +kernel
theorem dX10_takes_78 : decode cX10_takes 78 = .ok (.iaload, 1) := by decide +kernel
theorem dX10_takes_79 : decode cX10_takes 79 = .ok (.iload 4, 2) := by decide +kernel
theorem dX10_takes_81 : decode cX10_takes 81 = .ok (.invokestatic 142, 3) := by decide +kernel
theorem dX10_takes_84 : decode cX10_takes 84 = .ok (.ifCond .ne 27, 3) := by decide +kernel
theorem dX10_takes_87 : decode cX10_takes 87 = .ok (.iload 5, 2) := by decide +kernel
theorem dX10_takes_89 : decode cX10_takes 89 = .ok (.ifCond .le 22, 3) := by decide +kernel
theorem dX10_takes_92 : decode cX10_takes 92 = .ok (.iload 5, 2) := by decide +kernel
theorem dX10_takes_94 : decode cX10_takes 94 = .ok (.aload_n 0, 1) := by decide +kernel
theorem dX10_takes_95 : decode cX10_takes 95 = .ok (.getfield 16, 3) := by decide +kernel
theorem dX10_takes_98 : decode cX10_takes 98 = .ok (.bipush 32, 2) := by decide +kernel
theorem dX10_takes_100 : decode cX10_takes 100 = .ok (.iload 4, 2) := by decide +kernel
theorem dX10_takes_102 : decode cX10_takes 102 = .ok (.iadd, 1) := by decide +kernel
theorem dX10_takes_103 : decode cX10_takes 103 = .ok (.iaload, 1) := by decide +kernel
theorem dX10_takes_104 : decode cX10_takes 104 = .ok (.if_icmp .gt 7, 3) := by decide +kernel
theorem dX10_takes_107 : decode cX10_takes 107 = .ok (.iconst 1, 1) := by decide +kernel
theorem dX10_takes_108 : decode cX10_takes 108 = .ok (.goto 4, 3) := by decide +kernel
theorem dX10_takes_111 : decode cX10_takes 111 = .ok (.iconst 0, 1) := by decide +kernel
