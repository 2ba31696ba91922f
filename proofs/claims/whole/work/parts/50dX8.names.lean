theorem dX8_init_0 : decode cX8_init 0 = .ok (.aload_n 0, 1) := by decide +kernel
theorem dX8_init_1 : decode cX8_init 1 = .ok (.invokespecial 3, 3) := by decide +kernel
theorem dX8_init_4 : decode cX8_init 4 = .ok (.aload_n 0, 1) := by decide +kernel
theorem dX8_init_5 : decode cX8_init 5 = .ok (.iconst 4, 1) := by decide +kernel
theorem dX8_init_6 : decode cX8_init 6 = .ok (.newarray .int, 2) := by decide +kernel
theorem dX8_init_8 : decode cX8_init 8 = .ok (.putfield 9, 3) := by decide +kernel
theorem dX8_init_11 : decode cX8_init 11 = .ok (.aload_n 0, 1) := by decide +kernel
theorem dX8_init_12 : decode cX8_init 12 = .ok (.iconst 4, 1) := by decide +kernel
theorem dX8_init_13 : decode cX8_init 13 = .ok (.newarray .int, 2) := by decide +kernel
theorem dX8_init_15 : decode cX8_init 15 = .ok (.putfield 15, 3) := by decide +kernel
theorem dX8_init_18 : decode cX8_init 18 = .ok (.aload_n 0, 1) := by decide +kernel
theorem dX8_init_19 : decode cX8_init 19 = .ok (.iconst 4, 1) := by decide +kernel
theorem dX8_init_20 : decode cX8_init 20 = .ok (.newarray .int, 2) := by decide +kernel
theorem dX8_init_22 : decode cX8_init 22 = .ok (.putfield 18, 3) := by decide +kernel
theorem dX8_init_25 : decode cX8_init 25 = .ok (.return_, 1) := by decide +kernel
theorem dX8_clear_0 : decode cX8_clear 0 = .ok (.aload_n 0, 1) := by decide +kernel
theorem dX8_clear_1 : decode cX8_clear 1 = .ok (.iconst 0, 1) := by decide +kernel
theorem dX8_clear_2 : decode cX8_clear 2 = .ok (.putfield 21, 3) := by decide +kernel
theorem dX8_clear_5 : decode cX8_clear 5 = .ok (.aload_n 0, 1) := by decide +kernel
theorem dX8_clear_6 : decode cX8_clear 6 = .ok (.iconst 0, 1) := by decide +kernel
theorem dX8_clear_7 : decode cX8_clear 7 = .ok (.putfield 25, 3) := by decide +kernel
theorem dX8_clear_10 : decode cX8_clear 10 = .ok (.aload_n 0, 1) := by decide +kernel
theorem dX8_clear_11 : decode cX8_clear 11 = .ok (.iconst 0, 1) := by decide +kernel
theorem dX8_clear_12 : decode cX8_clear 12 = .ok (.putfield 29, 3) := by decide +kernel
theorem dX8_clear_15 : decode cX8_clear 15 = .ok (.aload_n 0, 1) := by decide +kernel
theorem dX8_clear_16 : decode cX8_clear 16 = .ok (.iconst 0, 1) := by decide +kernel
theorem dX8_clear_17 : decode cX8_clear 17 = .ok (.putfield 32, 3) := by decide +kernel
theorem dX8_clear_20 : decode cX8_clear 20 = .ok (.aload_n 0, 1) := by decide +kernel
theorem dX8_clear_21 : decode cX8_clear 21 = .ok (.iconst 0, 1) := by decide +kernel
theorem dX8_clear_22 : decode cX8_clear 22 = .ok (.putfield 35, 3) := by decide +kernel
theorem dX8_clear_25 : decode cX8_clear 25 = .ok (.aload_n 0, 1) := by decide +kernel
theorem dX8_clear_26 : decode cX8_clear 26 = .ok (.iconst 0, 1) := by decide +kernel
theorem dX8_clear_27 : decode cX8_clear 27 = .ok (.putfield 38, 3) := by decide +kernel
theorem dX8_clear_30 : decode cX8_clear 30 = .ok (.return_, 1) := by decide +kernel
theorem dX8_take_0 : decode cX8_take 0 = .ok (.aload_n 0, 1) := by decide +kernel
theorem dX8_take_1 : decode cX8_take 1 = .ok (.aload_n 1, 1) := by decide +kernel
theorem dX8_take_2 : decode cX8_take 2 = .ok (.getfield 21, 3) := by decide +kernel
theorem dX8_take_5 : decode cX8_take 5 = .ok (.putfield 21, 3) := by decide +kernel
theorem dX8_take_8 : decode cX8_take 8 = .ok (.aload_n 0, 1) := by decide +kernel
theorem dX8_take_9 : decode cX8_take 9 = .ok (.aload_n 1, 1) := by decide +kernel
theorem dX8_take_10 : decode cX8_take 10 = .ok (.getfield 25, 3) := by decide +kernel
theorem dX8_take_13 : decode cX8_take 13 = .ok (.putfield 25, 3) := by decide +kernel
theorem dX8_take_16 : decode cX8_take 16 = .ok (.aload_n 0, 1) := by decide +kernel
theorem dX8_take_17 : decode cX8_take 17 = .ok (.aload_n 1, 1) := by decide +kernel
theorem dX8_take_18 : decode cX8_take 18 = .ok (.getfield 29, 3) := by decide +kernel
theorem dX8_take_21 : decode cX8_take 21 = .ok (.putfield 29, 3) := by decide +kernel
theorem dX8_take_24 : decode cX8_take 24 = .ok (.aload_n 0, 1) := by decide +kernel
theorem dX8_take_25 : decode cX8_take 25 = .ok (.aload_n 1, 1) := by decide +kernel
theorem dX8_take_26 : decode cX8_take 26 = .ok (.getfield 32, 3) := by decide +kernel
theorem dX8_take_29 : decode cX8_take 29 = .ok (.putfield 32, 3) := by decide +kernel
theorem dX8_take_32 : decode cX8_take 32 = .ok (.aload_n 0, 1) := by decide +kernel
theorem dX8_take_33 : decode cX8_take 33 = .ok (.aload_n 1, 1) := by decide +kernel
theorem dX8_take_34 : decode cX8_take 34 = .ok (.getfield 35, 3) := by decide +kernel
theorem dX8_take_37 : decode cX8_take 37 = .ok (.putfield 35, 3) := by decide +kernel
theorem dX8_take_40 : decode cX8_take 40 = .ok (.aload_n 0, 1) := by decide +kernel
theorem dX8_take_41 : decode cX8_take 41 = .ok (.aload_n 1, 1) := by decide +kernel
theorem dX8_take_42 : decode cX8_take 42 = .ok (.getfield 38, 3) := by decide +kernel
theorem dX8_take_45 : decode cX8_take 45 = .ok (.putfield 38, 3) := by decide +kernel
theorem dX8_take_48 : decode cX8_take 48 = .ok (.aload_n 1, 1) := by decide +kernel
theorem dX8_take_49 : decode cX8_take 49 = .ok (.getfield 9, 3) := by decide +kernel
theorem dX8_take_52 : decode cX8_take 52 = .ok (.iconst 0, 1) := by decide +kernel
theorem dX8_take_53 : decode cX8_take 53 = .ok (.aload_n 0, 1) := by decide +kernel
theorem dX8_take_54 : decode cX8_take 54 = .ok (.getfield 9, 3) := by decide +kernel
theorem dX8_take_57 : decode cX8_take 57 = .ok (.iconst 0, 1) := by decide +kernel
theorem dX8_take_58 : decode cX8_take 58 = .ok (.iconst 4, 1) := by decide +kernel
theorem dX8_take_59 : decode cX8_take 59 = .ok (.invokestatic 41, 3) := by decide +kernel
theorem dX8_take_62 : decode cX8_take 62 = .ok (.aload_n 1, 1) := by decide +kernel
theorem dX8_take_63 : decode cX8_take 63 = .ok (.getfield 15, 3) := by decide +kernel
theorem dX8_take_66 : decode cX8_take 66 = .ok (.iconst 0, 1) := by decide +kernel
theorem dX8_take_67 : decode cX8_take 67 = .ok (.aload_n 0, 1) := by decide +kernel
theorem dX8_take_68 : decode cX8_take 68 = .ok (.getfield 15, 3) := by decide +kernel
theorem dX8_take_71 : decode cX8_take 71 = .ok (.iconst 0, 1) := by decide +kernel
theorem dX8_take_72 : decode cX8_take 72 = .ok (.iconst 4, 1) := by decide +kernel
theorem dX8_take_73 : decode cX8_take 73 = .ok (.invokestatic 41, 3) := by decide +kernel
theorem dX8_take_76 : decode cX8_take 76 = .ok (.aload_n 1, 1) := by decide +kernel
theorem dX8_take_77 : decode cX8_take 77 = .ok (.getfield 18, 3) := by decide +kernel
theorem dX8_take_80 : decode cX8_take 80 = .ok (.iconst 0, 1) := by decide +kernel
theorem dX8_take_81 : decode cX8_take 81 = .ok (.aload_n 0, 1) := by decide +kernel
theorem dX8_take_82 : decode cX8_take 82 = .ok (.getfield 18, 3) := by decide +kernel
theorem dX8_take_85 : decode cX8_take 85 = .ok (.iconst 0, 1) := by decide +kernel
theorem dX8_take_86 : decode cX8_take 86 = .ok (.iconst 4, 1) := by decide +kernel
theorem dX8_take_87 : decode cX8_take 87 = .ok (.invokestatic 41, 3) := by decide +kernel
theorem dX8_take_90 : decode cX8_take 90 = .ok (.return_, 1) := by decide +kernel
theorem dX8_hasPerson_0 : decode cX8_hasPerson 0 = .ok (.iload_n 1, 1) := by decide +kernel
theorem dX8_hasPerson_1 : decode cX8_hasPerson 1 = .ok (.ifCond .lt 15, 3) := by decide +kernel
theorem dX8_hasPerson_4 : decode cX8_hasPerson 4 = .ok (.iload_n 1, 1) := by decide +kernel
theorem dX8_hasPerson_5 : decode cX8_hasPerson 5 = .ok (.aload_n 0, 1) := by decide +kernel
theorem dX8_hasPerson_6 : decode cX8_hasPerson 6 = .ok (.getfield 35, 3) := by decide +kernel
theorem dX8_hasPerson_9 : decode cX8_hasPerson 9 = .ok (.if_icmp .ge 7, 3) := by decide +kernel
theorem dX8_hasPerson_12 : decode cX8_hasPerson 12 = .ok (.iconst 1, 1) := by decide +kernel
theorem dX8_hasPerson_13 : decode cX8_hasPerson 13 = .ok (.goto 4, 3) := by decide +kernel
theorem dX8_hasPerson_16 : decode cX8_hasPerson 16 = .ok (.iconst 0, 1) := by decide +kernel
theorem dX8_hasPerson_17 : decode cX8_hasPerson 17 = .ok (.ireturn, 1) := by decide +kernel
theorem dX8_hasCreditor_0 : decode cX8_hasCreditor 0 = .ok (.iload_n 1, 1) := by decide +kernel
theorem dX8_hasCreditor_1 : decode cX8_hasCreditor 1 = .ok (.ifCond .lt 15, 3) := by decide +kernel
theorem dX8_hasCreditor_4 : decode cX8_hasCreditor 4 = .ok (.iload_n 1, 1) := by decide +kernel
theorem dX8_hasCreditor_5 : decode cX8_hasCreditor 5 = .ok (.aload_n 0, 1) := by decide +kernel
theorem dX8_hasCreditor_6 : decode cX8_hasCreditor 6 = .ok (.getfield 32, 3) := by decide +kernel
theorem dX8_hasCreditor_9 : decode cX8_hasCreditor 9 = .ok (.if_icmp .ge 7, 3) := by decide +kernel
theorem dX8_hasCreditor_12 : decode cX8_hasCreditor 12 = .ok (.iconst 1, 1) := by decide +kernel
theorem dX8_hasCreditor_13 : decode cX8_hasCreditor 13 = .ok (.goto 4, 3) := by decide +kernel
theorem dX8_hasCreditor_16 : decode cX8_hasCreditor 16 = .ok (.iconst 0, 1) := by decide +kernel
theorem dX8_hasCreditor_17 : decode cX8_hasCreditor 17 = .ok (.ireturn, 1) := by decide +kernel
theorem dX8_hasBoth_0 : decode cX8_hasBoth 0 = .ok (.aload_n 0, 1) := by decide +kernel
theorem dX8_hasBoth_1 : decode cX8_hasBoth 1 = .ok (.iload_n 1, 1) := by decide +kernel
theorem dX8_hasBoth_2 : decode cX8_hasBoth 2 = .ok (.invokevirtual 47, 3) := by decide +kernel
theorem dX8_hasBoth_5 : decode cX8_hasBoth 5 = .ok (.ifCond .eq 15, 3) := by decide +kernel
theorem dX8_hasBoth_8 : decode cX8_hasBoth 8 = .ok (.aload_n 0, 1) := by decide +kernel
theorem dX8_hasBoth_9 : decode cX8_hasBoth 9 = .ok (.iload_n 2, 1) := by decide +kernel
theorem dX8_hasBoth_10 : decode cX8_hasBoth 10 = .ok (.invokevirtual 51, 3) := by decide +kernel
theorem dX8_hasBoth_13 : decode cX8_hasBoth 13 = .ok (.ifCond .eq 7, 3) := by decide +kernel
theorem dX8_hasBoth_16 : decode cX8_hasBoth 16 = .ok (.iconst 1, 1) := by decide +kernel
theorem dX8_hasBoth_17 : decode cX8_hasBoth 17 = .ok (.goto 4, 3) := by decide +kernel
theorem dX8_hasBoth_20 : decode cX8_hasBoth 20 = .ok (.iconst 0, 1) := by decide +kernel
theorem dX8_hasBoth_21 : decode cX8_hasBoth 21 = .ok (.ireturn, 1) := by decide +kernel
theorem dX8_isGirl_0 : decode cX8_isGirl 0 = .ok (.aload_n 0, 1) := by decide +kernel
theorem dX8_isGirl_1 : decode cX8_isGirl 1 = .ok (.iload_n 1, 1) := by decide +kernel
theorem dX8_isGirl_2 : decode cX8_isGirl 2 = .ok (.invokevirtual 47, 3) := by decide +kernel
theorem dX8_isGirl_5 : decode cX8_isGirl 5 = .ok (.ifCond .eq 19, 3) := by decide +kernel
theorem dX8_isGirl_8 : decode cX8_isGirl 8 = .ok (.aload_n 0, 1) := by decide +kernel
theorem dX8_isGirl_9 : decode cX8_isGirl 9 = .ok (.getfield 38, 3) := by decide +kernel
theorem dX8_isGirl_12 : decode cX8_isGirl 12 = .ok (.iload_n 1, 1) := by decide +kernel
theorem dX8_isGirl_13 : decode cX8_isGirl 13 = .ok (.ishr, 1) := by decide +kernel
theorem dX8_isGirl_14 : decode cX8_isGirl 14 = .ok (.iconst 1, 1) := by decide +kernel
theorem dX8_isGirl_15 : decode cX8_isGirl 15 = .ok (.iand, 1) := by decide +kernel
theorem dX8_isGirl_16 : decode cX8_isGirl 16 = .ok (.iconst 1, 1) := by decide +kernel
theorem dX8_isGirl_17 : decode cX8_isGirl 17 = .ok (.if_icmp .ne 7, 3) := by decide +kernel
theorem dX8_isGirl_20 : decode cX8_isGirl 20 = .ok (.iconst 1, 1) := by decide +kernel
theorem dX8_isGirl_21 : decode cX8_isGirl 21 = .ok (.goto 4, 3) := by decide +kernel
theorem dX8_isGirl_24 : decode cX8_isGirl 24 = .ok (.iconst 0, 1) := by decide +kernel
theorem dX8_isGirl_25 : decode cX8_isGirl 25 = .ok (.ireturn, 1) := by decide +kernel
theorem dX8_isMan_0 : decode cX8_isMan 0 = .ok (.aload_n 0, 1) := by decide +kernel
theorem dX8_isMan_1 : decode cX8_isMan 1 = .ok (.iload_n 1, 1) := by decide +kernel
theorem dX8_isMan_2 : decode cX8_isMan 2 = .ok (.invokevirtual 47, 3) := by decide +kernel
theorem dX8_isMan_5 : decode cX8_isMan 5 = .ok (.ifCond .eq 18, 3) := by decide +kernel
theorem dX8_isMan_8 : decode cX8_isMan 8 = .ok (.aload_n 0, 1) := by decide +kernel
theorem dX8_isMan_9 : decode cX8_isMan 9 = .ok (.getfield 38, 3) := by decide +kernel
theorem dX8_isMan_12 : decode cX8_isMan 12 = .ok (.iload_n 1, 1) := by decide +kernel
theorem dX8_isMan_13 : decode cX8_isMan 13 = .ok (.ishr, 1) := by decide +kernel
theorem dX8_isMan_14 : decode cX8_isMan 14 = .ok (.iconst 1, 1) := by decide +kernel
theorem dX8_isMan_15 : decode cX8_isMan 15 = .ok (.iand, 1) := by decide +kernel
theorem dX8_isMan_16 : decode cX8_isMan 16 = .ok (.ifCond .ne 7, 3) := by decide +kernel
theorem dX8_isMan_19 : decode cX8_isMan 19 = .ok (.iconst 1, 1) := by decide +kernel
theorem dX8_isMan_20 : decode cX8_isMan 20 = .ok (.goto 4, 3) := by decide +kernel
theorem dX8_isMan_23 : decode cX8_isMan 23 = .ok (.iconst 0, 1) := by decide +kernel
theorem dX8_isMan_24 : decode cX8_isMan 24 = .ok (.ireturn, 1) := by decide +kernel
theorem dX8_grown_0 : decode cX8_grown 0 = .ok (.sipush 9999, 3) := by decide +kernel
theorem dX8_grown_3 : decode cX8_grown 3 = .ok (.iload_n 1, 1) := by decide +kernel
theorem dX8_grown_4 : decode cX8_grown 4 = .ok (.iload_n 1, 1) := by decide +kernel
theorem dX8_grown_5 : decode cX8_grown 5 = .ok (.aload_n 0, 1) := by decide +kernel
theorem dX8_grown_6 : decode cX8_grown 6 = .ok (.getfield 25, 3) := by decide +kernel
theorem dX8_grown_9 : decode cX8_grown 9 = .ok (.imul, 1) := by decide +kernel
theorem dX8_grown_10 : decode cX8_grown 10 = .ok (.bipush 100, 2) := by decide +kernel
theorem dX8_grown_12 : decode cX8_grown 12 = .ok (.idiv, 1) := by decide +kernel
theorem dX8_grown_13 : decode cX8_grown 13 = .ok (.iadd, 1) := by decide +kernel
theorem dX8_grown_14 : decode cX8_grown 14 = .ok (.invokestatic 54, 3) := by decide +kernel
theorem dX8_grown_17 : decode cX8_grown 17 = .ok (.ireturn, 1) := by decide +kernel
theorem dX8_within_0 : decode cX8_within 0 = .ok (.iload_n 2, 1) := by decide +kernel
theorem dX8_within_1 : decode cX8_within 1 = .ok (.aload_n 0, 1) := by decide +kernel
theorem dX8_within_2 : decode cX8_within 2 = .ok (.getfield 9, 3) := by decide +kernel
theorem dX8_within_5 : decode cX8_within 5 = .ok (.iload_n 1, 1) := by decide +kernel
theorem dX8_within_6 : decode cX8_within 6 = .ok (.iaload, 1) := by decide +kernel
theorem dX8_within_7 : decode cX8_within 7 = .ok (.if_icmp .lt 17, 3) := by decide +kernel
theorem dX8_within_10 : decode cX8_within 10 = .ok (.iload_n 2, 1) := by decide +kernel
theorem dX8_within_11 : decode cX8_within 11 = .ok (.aload_n 0, 1) := by decide +kernel
theorem dX8_within_12 : decode cX8_within 12 = .ok (.getfield 15, 3) := by decide +kernel
theorem dX8_within_15 : decode cX8_within 15 = .ok (.iload_n 1, 1) := by decide +kernel
theorem dX8_within_16 : decode cX8_within 16 = .ok (.iaload, 1) := by decide +kernel
theorem dX8_within_17 : decode cX8_within 17 = .ok (.if_icmp .gt 7, 3) := by decide +kernel
theorem dX8_within_20 : decode cX8_within 20 = .ok (.iconst 1, 1) := by decide +kernel
theorem dX8_within_21 : decode cX8_within 21 = .ok (.goto 4, 3) := by decide +kernel
theorem dX8_within_24 : decode cX8_within 24 = .ok (.iconst 0, 1) := by decide +kernel
theorem dX8_within_25 : decode cX8_within 25 = .ok (.ireturn, 1) := by decide +kernel
