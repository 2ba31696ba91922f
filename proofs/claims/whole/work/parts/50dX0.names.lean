theorem dX0_init_0 : decode cX0_init 0 = .ok (.aload_n 0, 1) := by decide +kernel
theorem dX0_init_1 : decode cX0_init 1 = .ok (.invokespecial 3, 3) := by decide +kernel
theorem dX0_init_4 : decode cX0_init 4 = .ok (.aload_n 0, 1) := by decide +kernel
theorem dX0_init_5 : decode cX0_init 5 = .ok (.bipush 20, 2) := by decide +kernel
theorem dX0_init_7 : decode cX0_init 7 = .ok (.newarray .int, 2) := by decide +kernel
theorem dX0_init_9 : decode cX0_init 9 = .ok (.putfield 9, 3) := by decide +kernel
theorem dX0_init_12 : decode cX0_init 12 = .ok (.aload_n 0, 1) := by decide +kernel
theorem dX0_init_13 : decode cX0_init 13 = .ok (.bipush 20, 2) := by decide +kernel
theorem dX0_init_15 : decode cX0_init 15 = .ok (.newarray .int, 2) := by decide +kernel
theorem dX0_init_17 : decode cX0_init 17 = .ok (.putfield 15, 3) := by decide +kernel
theorem dX0_init_20 : decode cX0_init 20 = .ok (.return_, 1) := by decide +kernel
theorem dX0_add_0 : decode cX0_add 0 = .ok (.aload_n 0, 1) := by decide +kernel
theorem dX0_add_1 : decode cX0_add 1 = .ok (.getfield 18, 3) := by decide +kernel
theorem dX0_add_4 : decode cX0_add 4 = .ok (.bipush 20, 2) := by decide +kernel
theorem dX0_add_6 : decode cX0_add 6 = .ok (.if_icmp .lt 5, 3) := by decide +kernel
theorem dX0_add_9 : decode cX0_add 9 = .ok (.iconst 0, 1) := by decide +kernel
theorem dX0_add_10 : decode cX0_add 10 = .ok (.ireturn, 1) := by decide +kernel
theorem dX0_add_11 : decode cX0_add 11 = .ok (.aload_n 0, 1) := by decide +kernel
theorem dX0_add_12 : decode cX0_add 12 = .ok (.getfield 9, 3) := by decide +kernel
theorem dX0_add_15 : decode cX0_add 15 = .ok (.aload_n 0, 1) := by decide +kernel
theorem dX0_add_16 : decode cX0_add 16 = .ok (.getfield 18, 3) := by decide +kernel
theorem dX0_add_19 : decode cX0_add 19 = .ok (.iload_n 1, 1) := by decide +kernel
theorem dX0_add_20 : decode cX0_add 20 = .ok (.iastore, 1) := by decide +kernel
theorem dX0_add_21 : decode cX0_add 21 = .ok (.aload_n 0, 1) := by decide +kernel
theorem dX0_add_22 : decode cX0_add 22 = .ok (.getfield 15, 3) := by decide +kernel
theorem dX0_add_25 : decode cX0_add 25 = .ok (.aload_n 0, 1) := by decide +kernel
theorem dX0_add_26 : decode cX0_add 26 = .ok (.getfield 18, 3) := by decide +kernel
theorem dX0_add_29 : decode cX0_add 29 = .ok (.iload_n 2, 1) := by decide +kernel
theorem dX0_add_30 : decode cX0_add 30 = .ok (.iastore, 1) := by decide +kernel
theorem dX0_add_31 : decode cX0_add 31 = .ok (.aload_n 0, 1) := by decide +kernel
theorem dX0_add_32 : decode cX0_add 32 = .ok (.dup, 1) := by decide +kernel
theorem dX0_add_33 : decode cX0_add 33 = .ok (.getfield 18, 3) := by decide +kernel
theorem dX0_add_36 : decode cX0_add 36 = .ok (.iconst 1, 1) := by decide +kernel
theorem dX0_add_37 : decode cX0_add 37 = .ok (.iadd, 1) := by decide +kernel
theorem dX0_add_38 : decode cX0_add 38 = .ok (.putfield 18, 3) := by decide +kernel
theorem dX0_add_41 : decode cX0_add 41 = .ok (.iconst 1, 1) := by decide +kernel
theorem dX0_add_42 : decode cX0_add 42 = .ok (.ireturn, 1) := by decide +kernel
theorem dX0_firstWrong_0 : decode cX0_firstWrong 0 = .ok (.iconst 0, 1) := by decide +kernel
theorem dX0_firstWrong_1 : decode cX0_firstWrong 1 = .ok (.istore_n 2, 1) := by decide +kernel
theorem dX0_firstWrong_2 : decode cX0_firstWrong 2 = .ok (.iload_n 2, 1) := by decide +kernel
theorem dX0_firstWrong_3 : decode cX0_firstWrong 3 = .ok (.aload_n 0, 1) := by decide +kernel
theorem dX0_firstWrong_4 : decode cX0_firstWrong 4 = .ok (.getfield 18, 3) := by decide +kernel
theorem dX0_firstWrong_7 : decode cX0_firstWrong 7 = .ok (.if_icmp .ge 30, 3) := by decide +kernel
theorem dX0_firstWrong_10 : decode cX0_firstWrong 10 = .ok (.aload_n 1, 1) := by decide +kernel
theorem dX0_firstWrong_11 : decode cX0_firstWrong 11 = .ok (.aload_n 0, 1) := by decide +kernel
theorem dX0_firstWrong_12 : decode cX0_firstWrong 12 = .ok (.getfield 9, 3) := by decide +kernel
theorem dX0_firstWrong_15 : decode cX0_firstWrong 15 = .ok (.iload_n 2, 1) := by decide +kernel
theorem dX0_firstWrong_16 : decode cX0_firstWrong 16 = .ok (.iaload, 1) := by decide +kernel
theorem dX0_firstWrong_17 : decode cX0_firstWrong 17 = .ok (.invokevirtual 22, 3) := by decide +kernel
theorem dX0_firstWrong_20 : decode cX0_firstWrong 20 = .ok (.aload_n 0, 1) := by decide +kernel
theorem dX0_firstWrong_21 : decode cX0_firstWrong 21 = .ok (.getfield 15, 3) := by decide +kernel
theorem dX0_firstWrong_24 : decode cX0_firstWrong 24 = .ok (.iload_n 2, 1) := by decide +kernel
theorem dX0_firstWrong_25 : decode cX0_firstWrong 25 = .ok (.iaload, 1) := by decide +kernel
theorem dX0_firstWrong_26 : decode cX0_firstWrong 26 = .ok (.if_icmp .eq 5, 3) := by decide +kernel
theorem dX0_firstWrong_29 : decode cX0_firstWrong 29 = .ok (.iload_n 2, 1) := by decide +kernel
theorem dX0_firstWrong_30 : decode cX0_firstWrong 30 = .ok (.ireturn, 1) := by decide +kernel
theorem dX0_firstWrong_31 : decode cX0_firstWrong 31 = .ok (.iinc 2 1, 3) := by decide +kernel
theorem dX0_firstWrong_34 : decode cX0_firstWrong 34 = .ok (.goto (-32), 3) := by decide +kernel
theorem dX0_firstWrong_37 : decode cX0_firstWrong 37 = .ok (.iconst (-1), 1) := by decide +kernel
theorem dX0_firstWrong_38 : decode cX0_firstWrong 38 = .ok (.ireturn, 1) := by decide +kernel
