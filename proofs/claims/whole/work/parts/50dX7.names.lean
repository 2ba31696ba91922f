theorem dX7_init_0 : decode cX7_init 0 = .ok (.aload_n 0, 1) := by decide +kernel
theorem dX7_init_1 : decode cX7_init 1 = .ok (.invokespecial 3, 3) := by decide +kernel
theorem dX7_init_4 : decode cX7_init 4 = .ok (.aload_n 0, 1) := by decide +kernel
theorem dX7_init_5 : decode cX7_init 5 = .ok (.bipush 32, 2) := by decide +kernel
theorem dX7_init_7 : decode cX7_init 7 = .ok (.newarray .int, 2) := by decide +kernel
theorem dX7_init_9 : decode cX7_init 9 = .ok (.putfield 9, 3) := by decide +kernel
theorem dX7_init_12 : decode cX7_init 12 = .ok (.aload_n 0, 1) := by decide +kernel
theorem dX7_init_13 : decode cX7_init 13 = .ok (.iconst 4, 1) := by decide +kernel
theorem dX7_init_14 : decode cX7_init 14 = .ok (.newarray .int, 2) := by decide +kernel
theorem dX7_init_16 : decode cX7_init 16 = .ok (.putfield 15, 3) := by decide +kernel
theorem dX7_init_19 : decode cX7_init 19 = .ok (.aload_n 0, 1) := by decide +kernel
theorem dX7_init_20 : decode cX7_init 20 = .ok (.bipush 8, 2) := by decide +kernel
theorem dX7_init_22 : decode cX7_init 22 = .ok (.newarray .int, 2) := by decide +kernel
theorem dX7_init_24 : decode cX7_init 24 = .ok (.putfield 18, 3) := by decide +kernel
theorem dX7_init_27 : decode cX7_init 27 = .ok (.aload_n 0, 1) := by decide +kernel
theorem dX7_init_28 : decode cX7_init 28 = .ok (.bipush 8, 2) := by decide +kernel
theorem dX7_init_30 : decode cX7_init 30 = .ok (.newarray .int, 2) := by decide +kernel
theorem dX7_init_32 : decode cX7_init 32 = .ok (.putfield 21, 3) := by decide +kernel
theorem dX7_init_35 : decode cX7_init 35 = .ok (.aload_n 0, 1) := by decide +kernel
theorem dX7_init_36 : decode cX7_init 36 = .ok (.aload_n 1, 1) := by decide +kernel
theorem dX7_init_37 : decode cX7_init 37 = .ok (.putfield 24, 3) := by decide +kernel
theorem dX7_init_40 : decode cX7_init 40 = .ok (.return_, 1) := by decide +kernel
theorem dX7_clear_0 : decode cX7_clear 0 = .ok (.iconst 0, 1) := by decide +kernel
theorem dX7_clear_1 : decode cX7_clear 1 = .ok (.istore_n 1, 1) := by decide +kernel
theorem dX7_clear_2 : decode cX7_clear 2 = .ok (.iload_n 1, 1) := by decide +kernel
theorem dX7_clear_3 : decode cX7_clear 3 = .ok (.bipush 32, 2) := by decide +kernel
theorem dX7_clear_5 : decode cX7_clear 5 = .ok (.if_icmp .ge 16, 3) := by decide +kernel
theorem dX7_clear_8 : decode cX7_clear 8 = .ok (.aload_n 0, 1) := by decide +kernel
theorem dX7_clear_9 : decode cX7_clear 9 = .ok (.getfield 9, 3) := by decide +kernel
theorem dX7_clear_12 : decode cX7_clear 12 = .ok (.iload_n 1, 1) := by decide +kernel
theorem dX7_clear_13 : decode cX7_clear 13 = .ok (.iconst 0, 1) := by decide +kernel
theorem dX7_clear_14 : decode cX7_clear 14 = .ok (.iastore, 1) := by decide +kernel
theorem dX7_clear_15 : decode cX7_clear 15 = .ok (.iinc 1 1, 3) := by decide +kernel
theorem dX7_clear_18 : decode cX7_clear 18 = .ok (.goto (-16), 3) := by decide +kernel
theorem dX7_clear_21 : decode cX7_clear 21 = .ok (.iconst 0, 1) := by decide +kernel
theorem dX7_clear_22 : decode cX7_clear 22 = .ok (.istore_n 1, 1) := by decide +kernel
theorem dX7_clear_23 : decode cX7_clear 23 = .ok (.iload_n 1, 1) := by decide +kernel
theorem dX7_clear_24 : decode cX7_clear 24 = .ok (.iconst 4, 1) := by decide +kernel
theorem dX7_clear_25 : decode cX7_clear 25 = .ok (.if_icmp .ge 16, 3) := by decide +kernel
theorem dX7_clear_28 : decode cX7_clear 28 = .ok (.aload_n 0, 1) := by decide +kernel
theorem dX7_clear_29 : decode cX7_clear 29 = .ok (.getfield 15, 3) := by decide +kernel
theorem dX7_clear_32 : decode cX7_clear 32 = .ok (.iload_n 1, 1) := by decide +kernel
theorem dX7_clear_33 : decode cX7_clear 33 = .ok (.iconst 0, 1) := by decide +kernel
theorem dX7_clear_34 : decode cX7_clear 34 = .ok (.iastore, 1) := by decide +kernel
theorem dX7_clear_35 : decode cX7_clear 35 = .ok (.iinc 1 1, 3) := by decide +kernel
theorem dX7_clear_38 : decode cX7_clear 38 = .ok (.goto (-15), 3) := by decide +kernel
theorem dX7_clear_41 : decode cX7_clear 41 = .ok (.iconst 0, 1) := by decide +kernel
theorem dX7_clear_42 : decode cX7_clear 42 = .ok (.istore_n 1, 1) := by decide +kernel
theorem dX7_clear_43 : decode cX7_clear 43 = .ok (.iload_n 1, 1) := by decide +kernel
theorem dX7_clear_44 : decode cX7_clear 44 = .ok (.bipush 8, 2) := by decide +kernel
theorem dX7_clear_46 : decode cX7_clear 46 = .ok (.if_icmp .ge 23, 3) := by decide +kernel
theorem dX7_clear_49 : decode cX7_clear 49 = .ok (.aload_n 0, 1) := by decide +kernel
theorem dX7_clear_50 : decode cX7_clear 50 = .ok (.getfield 18, 3) := by decide +kernel
theorem dX7_clear_53 : decode cX7_clear 53 = .ok (.iload_n 1, 1) := by decide +kernel
theorem dX7_clear_54 : decode cX7_clear 54 = .ok (.iconst 0, 1) := by decide +kernel
theorem dX7_clear_55 : decode cX7_clear 55 = .ok (.iastore, 1) := by decide +kernel
theorem dX7_clear_56 : decode cX7_clear 56 = .ok (.aload_n 0, 1) := by decide +kernel
theorem dX7_clear_57 : decode cX7_clear 57 = .ok (.getfield 21, 3) := by decide +kernel
theorem dX7_clear_60 : decode cX7_clear 60 = .ok (.iload_n 1, 1) := by decide +kernel
theorem dX7_clear_61 : decode cX7_clear 61 = .ok (.iconst (-1), 1) := by decide +kernel
theorem dX7_clear_62 : decode cX7_clear 62 = .ok (.iastore, 1) := by decide +kernel
theorem dX7_clear_63 : decode cX7_clear 63 = .ok (.iinc 1 1, 3) := by decide +kernel
theorem dX7_clear_66 : decode cX7_clear 66 = .ok (.goto (-23), 3) := by decide +kernel
theorem dX7_clear_69 : decode cX7_clear 69 = .ok (.aload_n 0, 1) := by decide +kernel
theorem dX7_clear_70 : decode cX7_clear 70 = .ok (.iconst 0, 1) := by decide +kernel
theorem dX7_clear_71 : decode cX7_clear 71 = .ok (.putfield 28, 3) := by decide +kernel
theorem dX7_clear_74 : decode cX7_clear 74 = .ok (.aload_n 0, 1) := by decide +kernel
theorem dX7_clear_75 : decode cX7_clear 75 = .ok (.iconst 0, 1) := by decide +kernel
theorem dX7_clear_76 : decode cX7_clear 76 = .ok (.putfield 32, 3) := by decide +kernel
theorem dX7_clear_79 : decode cX7_clear 79 = .ok (.return_, 1) := by decide +kernel
theorem dX7_take_0 : decode cX7_take 0 = .ok (.aload_n 1, 1) := by decide +kernel
theorem dX7_take_1 : decode cX7_take 1 = .ok (.getfield 9, 3) := by decide +kernel
theorem dX7_take_4 : decode cX7_take 4 = .ok (.iconst 0, 1) := by decide +kernel
theorem dX7_take_5 : decode cX7_take 5 = .ok (.aload_n 0, 1) := by decide +kernel
theorem dX7_take_6 : decode cX7_take 6 = .ok (.getfield 9, 3) := by decide +kernel
theorem dX7_take_9 : decode cX7_take 9 = .ok (.iconst 0, 1) := by decide +kernel
theorem dX7_take_10 : decode cX7_take 10 = .ok (.bipush 32, 2) := by decide +kernel
theorem dX7_take_12 : decode cX7_take 12 = .ok (.invokestatic 35, 3) := by decide +kernel
theorem dX7_take_15 : decode cX7_take 15 = .ok (.aload_n 1, 1) := by decide +kernel
theorem dX7_take_16 : decode cX7_take 16 = .ok (.getfield 15, 3) := by decide +kernel
theorem dX7_take_19 : decode cX7_take 19 = .ok (.iconst 0, 1) := by decide +kernel
theorem dX7_take_20 : decode cX7_take 20 = .ok (.aload_n 0, 1) := by decide +kernel
theorem dX7_take_21 : decode cX7_take 21 = .ok (.getfield 15, 3) := by decide +kernel
theorem dX7_take_24 : decode cX7_take 24 = .ok (.iconst 0, 1) := by decide +kernel
theorem dX7_take_25 : decode cX7_take 25 = .ok (.iconst 4, 1) := by decide +kernel
theorem dX7_take_26 : decode cX7_take 26 = .ok (.invokestatic 35, 3) := by decide +kernel
theorem dX7_take_29 : decode cX7_take 29 = .ok (.aload_n 1, 1) := by decide +kernel
theorem dX7_take_30 : decode cX7_take 30 = .ok (.getfield 18, 3) := by decide +kernel
theorem dX7_take_33 : decode cX7_take 33 = .ok (.iconst 0, 1) := by decide +kernel
theorem dX7_take_34 : decode cX7_take 34 = .ok (.aload_n 0, 1) := by decide +kernel
theorem dX7_take_35 : decode cX7_take 35 = .ok (.getfield 18, 3) := by decide +kernel
theorem dX7_take_38 : decode cX7_take 38 = .ok (.iconst 0, 1) := by decide +kernel
theorem dX7_take_39 : decode cX7_take 39 = .ok (.bipush 8, 2) := by decide +kernel
theorem dX7_take_41 : decode cX7_take 41 = .ok (.invokestatic 35, 3) := by decide +kernel
theorem dX7_take_44 : decode cX7_take 44 = .ok (.aload_n 1, 1) := by decide +kernel
theorem dX7_take_45 : decode cX7_take 45 = .ok (.getfield 21, 3) := by decide +kernel
theorem dX7_take_48 : decode cX7_take 48 = .ok (.iconst 0, 1) := by decide +kernel
theorem dX7_take_49 : decode cX7_take 49 = .ok (.aload_n 0, 1) := by decide +kernel
theorem dX7_take_50 : decode cX7_take 50 = .ok (.getfield 21, 3) := by decide +kernel
theorem dX7_take_53 : decode cX7_take 53 = .ok (.iconst 0, 1) := by decide +kernel
theorem dX7_take_54 : decode cX7_take 54 = .ok (.bipush 8, 2) := by decide +kernel
theorem dX7_take_56 : decode cX7_take 56 = .ok (.invokestatic 35, 3) := by decide +kernel
theorem dX7_take_59 : decode cX7_take 59 = .ok (.aload_n 0, 1) := by decide +kernel
theorem dX7_take_60 : decode cX7_take 60 = .ok (.aload_n 1, 1) := by decide +kernel
theorem dX7_take_61 : decode cX7_take 61 = .ok (.getfield 28, 3) := by decide +kernel
theorem dX7_take_64 : decode cX7_take 64 = .ok (.putfield 28, 3) := by decide +kernel
theorem dX7_take_67 : decode cX7_take 67 = .ok (.aload_n 0, 1) := by decide +kernel
theorem dX7_take_68 : decode cX7_take 68 = .ok (.aload_n 1, 1) := by decide +kernel
theorem dX7_take_69 : decode cX7_take 69 = .ok (.getfield 32, 3) := by decide +kernel
theorem dX7_take_72 : decode cX7_take 72 = .ok (.putfield 32, 3) := by decide +kernel
theorem dX7_take_75 : decode cX7_take 75 = .ok (.return_, 1) := by decide +kernel
theorem dX7_owedTo_0 : decode cX7_owedTo 0 = .ok (.aload_n 0, 1) := by decide +kernel
theorem dX7_owedTo_1 : decode cX7_owedTo 1 = .ok (.getfield 9, 3) := by decide +kernel
theorem dX7_owedTo_4 : decode cX7_owedTo 4 = .ok (.iload_n 1, 1) := by decide +kernel
theorem dX7_owedTo_5 : decode cX7_owedTo 5 = .ok (.iconst 4, 1) := by decide +kernel
theorem dX7_owedTo_6 : decode cX7_owedTo 6 = .ok (.imul, 1) := by decide +kernel
theorem dX7_owedTo_7 : decode cX7_owedTo 7 = .ok (.iload_n 2, 1) := by decide +kernel
theorem dX7_owedTo_8 : decode cX7_owedTo 8 = .ok (.iadd, 1) := by decide +kernel
theorem dX7_owedTo_9 : decode cX7_owedTo 9 = .ok (.iaload, 1) := by decide +kernel
theorem dX7_owedTo_10 : decode cX7_owedTo 10 = .ok (.ireturn, 1) := by decide +kernel
theorem dX7_setOwed_0 : decode cX7_setOwed 0 = .ok (.aload_n 0, 1) := by decide +kernel
theorem dX7_setOwed_1 : decode cX7_setOwed 1 = .ok (.getfield 9, 3) := by decide +kernel
theorem dX7_setOwed_4 : decode cX7_setOwed 4 = .ok (.iload_n 1, 1) := by decide +kernel
theorem dX7_setOwed_5 : decode cX7_setOwed 5 = .ok (.iconst 4, 1) := by decide +kernel
theorem dX7_setOwed_6 : decode cX7_setOwed 6 = .ok (.imul, 1) := by decide +kernel
theorem dX7_setOwed_7 : decode cX7_setOwed 7 = .ok (.iload_n 2, 1) := by decide +kernel
theorem dX7_setOwed_8 : decode cX7_setOwed 8 = .ok (.iadd, 1) := by decide +kernel
theorem dX7_setOwed_9 : decode cX7_setOwed 9 = .ok (.sipush 9999, 3) := by decide +kernel
theorem dX7_setOwed_12 : decode cX7_setOwed 12 = .ok (.iload_n 3, 1) := by decide +kernel
theorem dX7_setOwed_13 : decode cX7_setOwed 13 = .ok (.invokestatic 41, 3) := by decide +kernel
theorem dX7_setOwed_16 : decode cX7_setOwed 16 = .ok (.iastore, 1) := by decide +kernel
theorem dX7_setOwed_17 : decode cX7_setOwed 17 = .ok (.return_, 1) := by decide +kernel
theorem dX7_owedTogether_0 : decode cX7_owedTogether 0 = .ok (.iconst 0, 1) := by decide +kernel
theorem dX7_owedTogether_1 : decode cX7_owedTogether 1 = .ok (.istore_n 2, 1) := by decide +kernel
theorem dX7_owedTogether_2 : decode cX7_owedTogether 2 = .ok (.iconst 0, 1) := by decide +kernel
theorem dX7_owedTogether_3 : decode cX7_owedTogether 3 = .ok (.istore_n 3, 1) := by decide +kernel
theorem dX7_owedTogether_4 : decode cX7_owedTogether 4 = .ok (.iload_n 3, 1) := by decide +kernel
theorem dX7_owedTogether_5 : decode cX7_owedTogether 5 = .ok (.aload_n 0, 1) := by decide +kernel
theorem dX7_owedTogether_6 : decode cX7_owedTogether 6 = .ok (.getfield 24, 3) := by decide +kernel
theorem dX7_owedTogether_9 : decode cX7_owedTogether 9 = .ok (.getfield 47, 3) := by decide +kernel
theorem dX7_owedTogether_12 : decode cX7_owedTogether 12 = .ok (.if_icmp .ge 18, 3) := by decide +kernel
theorem dX7_owedTogether_15 : decode cX7_owedTogether 15 = .ok (.iload_n 2, 1) := by decide +kernel
theorem dX7_owedTogether_16 : decode cX7_owedTogether 16 = .ok (.aload_n 0, 1) := by decide +kernel
theorem dX7_owedTogether_17 : decode cX7_owedTogether 17 = .ok (.iload_n 1, 1) := by decide +kernel
theorem dX7_owedTogether_18 : decode cX7_owedTogether 18 = .ok (.iload_n 3, 1) := by decide +kernel
theorem dX7_owedTogether_19 : decode cX7_owedTogether 19 = .ok (.invokevirtual 52, 3) := by decide +kernel
theorem dX7_owedTogether_22 : decode cX7_owedTogether 22 = .ok (.iadd, 1) := by decide +kernel
theorem dX7_owedTogether_23 : decode cX7_owedTogether 23 = .ok (.istore_n 2, 1) := by decide +kernel
theorem dX7_owedTogether_24 : decode cX7_owedTogether 24 = .ok (.iinc 3 1, 3) := by decide +kernel
theorem dX7_owedTogether_27 : decode cX7_owedTogether 27 = .ok (.goto (-23), 3) := by decide +kernel
theorem dX7_owedTogether_30 : decode cX7_owedTogether 30 = .ok (.iload_n 2, 1) := by decide +kernel
theorem dX7_owedTogether_31 : decode cX7_owedTogether 31 = .ok (.ireturn, 1) := by decide +kernel
theorem dX7_owedInAll_0 : decode cX7_owedInAll 0 = .ok (.iconst 0, 1) := by decide +kernel
theorem dX7_owedInAll_1 : decode cX7_owedInAll 1 = .ok (.istore_n 1, 1) := by decide +kernel
theorem dX7_owedInAll_2 : decode cX7_owedInAll 2 = .ok (.iconst 0, 1) := by decide +kernel
theorem dX7_owedInAll_3 : decode cX7_owedInAll 3 = .ok (.istore_n 2, 1) := by decide +kernel
theorem dX7_owedInAll_4 : decode cX7_owedInAll 4 = .ok (.iload_n 2, 1) := by decide +kernel
theorem dX7_owedInAll_5 : decode cX7_owedInAll 5 = .ok (.aload_n 0, 1) := by decide +kernel
theorem dX7_owedInAll_6 : decode cX7_owedInAll 6 = .ok (.getfield 24, 3) := by decide +kernel
theorem dX7_owedInAll_9 : decode cX7_owedInAll 9 = .ok (.getfield 55, 3) := by decide +kernel
theorem dX7_owedInAll_12 : decode cX7_owedInAll 12 = .ok (.if_icmp .ge 17, 3) := by decide +kernel
theorem dX7_owedInAll_15 : decode cX7_owedInAll 15 = .ok (.iload_n 1, 1) := by decide +kernel
theorem dX7_owedInAll_16 : decode cX7_owedInAll 16 = .ok (.aload_n 0, 1) := by decide +kernel
theorem dX7_owedInAll_17 : decode cX7_owedInAll 17 = .ok (.iload_n 2, 1) := by decide +kernel
theorem dX7_owedInAll_18 : decode cX7_owedInAll 18 = .ok (.invokevirtual 58, 3) := by decide +kernel
theorem dX7_owedInAll_21 : decode cX7_owedInAll 21 = .ok (.iadd, 1) := by decide +kernel
theorem dX7_owedInAll_22 : decode cX7_owedInAll 22 = .ok (.istore_n 1, 1) := by decide +kernel
theorem dX7_owedInAll_23 : decode cX7_owedInAll 23 = .ok (.iinc 2 1, 3) := by decide +kernel
theorem dX7_owedInAll_26 : decode cX7_owedInAll 26 = .ok (.goto (-22), 3) := by decide +kernel
theorem dX7_owedInAll_29 : decode cX7_owedInAll 29 = .ok (.iload_n 1, 1) := by decide +kernel
theorem dX7_owedInAll_30 : decode cX7_owedInAll 30 = .ok (.ireturn, 1) := by decide +kernel
theorem dX7_wedSet_0 : decode cX7_wedSet 0 = .ok (.iconst 0, 1) := by decide +kernel
theorem dX7_wedSet_1 : decode cX7_wedSet 1 = .ok (.istore_n 1, 1) := by decide +kernel
theorem dX7_wedSet_2 : decode cX7_wedSet 2 = .ok (.iconst 0, 1) := by decide +kernel
theorem dX7_wedSet_3 : decode cX7_wedSet 3 = .ok (.istore_n 2, 1) := by decide +kernel
theorem dX7_wedSet_4 : decode cX7_wedSet 4 = .ok (.iload_n 2, 1) := by decide +kernel
theorem dX7_wedSet_5 : decode cX7_wedSet 5 = .ok (.aload_n 0, 1) := by decide +kernel
theorem dX7_wedSet_6 : decode cX7_wedSet 6 = .ok (.getfield 24, 3) := by decide +kernel
theorem dX7_wedSet_9 : decode cX7_wedSet 9 = .ok (.getfield 55, 3) := by decide +kernel
theorem dX7_wedSet_12 : decode cX7_wedSet 12 = .ok (.if_icmp .ge 25, 3) := by decide +kernel
theorem dX7_wedSet_15 : decode cX7_wedSet 15 = .ok (.aload_n 0, 1) := by decide +kernel
theorem dX7_wedSet_16 : decode cX7_wedSet 16 = .ok (.getfield 21, 3) := by decide +kernel
theorem dX7_wedSet_19 : decode cX7_wedSet 19 = .ok (.iload_n 2, 1) := by decide +kernel
theorem dX7_wedSet_20 : decode cX7_wedSet 20 = .ok (.iaload, 1) := by decide +kernel
theorem dX7_wedSet_21 : decode cX7_wedSet 21 = .ok (.iconst (-1), 1) := by decide +kernel
theorem dX7_wedSet_22 : decode cX7_wedSet 22 = .ok (.if_icmp .eq 9, 3) := by decide +kernel
theorem dX7_wedSet_25 : decode cX7_wedSet 25 = .ok (.iload_n 1, 1) := by decide +kernel
theorem dX7_wedSet_26 : decode cX7_wedSet 26 = .ok (.iconst 1, 1) := by decide +kernel
theorem dX7_wedSet_27 : decode cX7_wedSet 27 = .ok (.iload_n 2, 1) := by decide +kernel
theorem dX7_wedSet_28 : decode cX7_wedSet 28 = .ok (.ishl, 1) := by decide +kernel
theorem dX7_wedSet_29 : decode cX7_wedSet 29 = .ok (.ior, 1) := by decide +kernel
theorem dX7_wedSet_30 : decode cX7_wedSet 30 = .ok (.istore_n 1, 1) := by decide +kernel
theorem dX7_wedSet_31 : decode cX7_wedSet 31 = .ok (.iinc 2 1, 3) := by decide +kernel
theorem dX7_wedSet_34 : decode cX7_wedSet 34 = .ok (.goto (-30), 3) := by decide +kernel
theorem dX7_wedSet_37 : decode cX7_wedSet 37 = .ok (.iload_n 1, 1) := by decide +kernel
theorem dX7_wedSet_38 : decode cX7_wedSet 38 = .ok (.ireturn, 1) := by decide +kernel
theorem dX7_isWedMan_0 : decode cX7_isWedMan 0 = .ok (.aload_n 0, 1) := by decide +kernel
theorem dX7_isWedMan_1 : decode cX7_isWedMan 1 = .ok (.getfield 24, 3) := by decide +kernel
theorem dX7_isWedMan_4 : decode cX7_isWedMan 4 = .ok (.iload_n 1, 1) := by decide +kernel
theorem dX7_isWedMan_5 : decode cX7_isWedMan 5 = .ok (.invokevirtual 62, 3) := by decide +kernel
theorem dX7_isWedMan_8 : decode cX7_isWedMan 8 = .ok (.ifCond .eq 17, 3) := by decide +kernel
theorem dX7_isWedMan_11 : decode cX7_isWedMan 11 = .ok (.aload_n 0, 1) := by decide +kernel
theorem dX7_isWedMan_12 : decode cX7_isWedMan 12 = .ok (.getfield 21, 3) := by decide +kernel
theorem dX7_isWedMan_15 : decode cX7_isWedMan 15 = .ok (.iload_n 1, 1) := by decide +kernel
theorem dX7_isWedMan_16 : decode cX7_isWedMan 16 = .ok (.iaload, 1) := by decide +kernel
theorem dX7_isWedMan_17 : decode cX7_isWedMan 17 = .ok (.iconst (-1), 1) := by decide +kernel
theorem dX7_isWedMan_18 : decode cX7_isWedMan 18 = .ok (.if_icmp .eq 7, 3) := by decide +kernel
theorem dX7_isWedMan_21 : decode cX7_isWedMan 21 = .ok (.iconst 1, 1) := by decide +kernel
theorem dX7_isWedMan_22 : decode cX7_isWedMan 22 = .ok (.goto 4, 3) := by decide +kernel
theorem dX7_isWedMan_25 : decode cX7_isWedMan 25 = .ok (.iconst 0, 1) := by decide +kernel
theorem dX7_isWedMan_26 : decode cX7_isWedMan 26 = .ok (.ireturn, 1) := by decide +kernel
theorem dX7_hasFailed_0 : decode cX7_hasFailed 0 = .ok (.aload_n 0, 1) := by decide +kernel
theorem dX7_hasFailed_1 : decode cX7_hasFailed 1 = .ok (.getfield 28, 3) := by decide +kernel
theorem dX7_hasFailed_4 : decode cX7_hasFailed 4 = .ok (.iload_n 1, 1) := by decide +kernel
theorem dX7_hasFailed_5 : decode cX7_hasFailed 5 = .ok (.ishr, 1) := by decide +kernel
theorem dX7_hasFailed_6 : decode cX7_hasFailed 6 = .ok (.iconst 1, 1) := by decide +kernel
theorem dX7_hasFailed_7 : decode cX7_hasFailed 7 = .ok (.iand, 1) := by decide +kernel
theorem dX7_hasFailed_8 : decode cX7_hasFailed 8 = .ok (.iconst 1, 1) := by decide +kernel
theorem dX7_hasFailed_9 : decode cX7_hasFailed 9 = .ok (.if_icmp .ne 7, 3) := by decide +kernel
theorem dX7_hasFailed_12 : decode cX7_hasFailed 12 = .ok (.iconst 1, 1) := by decide +kernel
theorem dX7_hasFailed_13 : decode cX7_hasFailed 13 = .ok (.goto 4, 3) := by decide +kernel
theorem dX7_hasFailed_16 : decode cX7_hasFailed 16 = .ok (.iconst 0, 1) := by decide +kernel
theorem dX7_hasFailed_17 : decode cX7_hasFailed 17 = .ok (.ireturn, 1) := by decide +kernel
theorem dX7_hasInsulted_0 : decode cX7_hasInsulted 0 = .ok (.aload_n 0, 1) := by decide +kernel
theorem dX7_hasInsulted_1 : decode cX7_hasInsulted 1 = .ok (.getfield 18, 3) := by decide +kernel
theorem dX7_hasInsulted_4 : decode cX7_hasInsulted 4 = .ok (.iload_n 1, 1) := by decide +kernel
theorem dX7_hasInsulted_5 : decode cX7_hasInsulted 5 = .ok (.iaload, 1) := by decide +kernel
theorem dX7_hasInsulted_6 : decode cX7_hasInsulted 6 = .ok (.iload_n 2, 1) := by decide +kernel
theorem dX7_hasInsulted_7 : decode cX7_hasInsulted 7 = .ok (.ishr, 1) := by decide +kernel
theorem dX7_hasInsulted_8 : decode cX7_hasInsulted 8 = .ok (.iconst 1, 1) := by decide +kernel
theorem dX7_hasInsulted_9 : decode cX7_hasInsulted 9 = .ok (.iand, 1) := by decide +kernel
theorem dX7_hasInsulted_10 : decode cX7_hasInsulted 10 = .ok (.iconst 1, 1) := by decide +kernel
theorem dX7_hasInsulted_11 : decode cX7_hasInsulted 11 = .ok (.if_icmp .ne 7, 3) := by decide +kernel
theorem dX7_hasInsulted_14 : decode cX7_hasInsulted 14 = .ok (.iconst 1, 1) := by decide +kernel
theorem dX7_hasInsulted_15 : decode cX7_hasInsulted 15 = .ok (.goto 4, 3) := by decide +kernel
theorem dX7_hasInsulted_18 : decode cX7_hasInsulted 18 = .ok (.iconst 0, 1) := by decide +kernel
theorem dX7_hasInsulted_19 : decode cX7_hasInsulted 19 = .ok (.ireturn, 1) := by decide +kernel
theorem dX7_moodBy_0 : decode cX7_moodBy 0 = .ok (.aload_n 0, 1) := by decide +kernel
theorem dX7_moodBy_1 : decode cX7_moodBy 1 = .ok (.iload_n 1, 1) := by decide +kernel
theorem dX7_moodBy_2 : decode cX7_moodBy 2 = .ok (.invokevirtual 66, 3) := by decide +kernel
theorem dX7_moodBy_5 : decode cX7_moodBy 5 = .ok (.ifCond .eq 5, 3) := by decide +kernel
theorem dX7_moodBy_8 : decode cX7_moodBy 8 = .ok (.iconst 3, 1) := by decide +kernel
theorem dX7_moodBy_9 : decode cX7_moodBy 9 = .ok (.ireturn, 1) := by decide +kernel
theorem dX7_moodBy_10 : decode cX7_moodBy 10 = .ok (.iload_n 3, 1) := by decide +kernel
theorem dX7_moodBy_11 : decode cX7_moodBy 11 = .ok (.ifCond .ne 16, 3) := by decide +kernel
theorem dX7_moodBy_14 : decode cX7_moodBy 14 = .ok (.iload_n 2, 1) := by decide +kernel
theorem dX7_moodBy_15 : decode cX7_moodBy 15 = .ok (.aload_n 0, 1) := by decide +kernel
theorem dX7_moodBy_16 : decode cX7_moodBy 16 = .ok (.getfield 24, 3) := by decide +kernel
theorem dX7_moodBy_19 : decode cX7_moodBy 19 = .ok (.getfield 69, 3) := by decide +kernel
theorem dX7_moodBy_22 : decode cX7_moodBy 22 = .ok (.iload_n 1, 1) := by decide +kernel
theorem dX7_moodBy_23 : decode cX7_moodBy 23 = .ok (.iaload, 1) := by decide +kernel
theorem dX7_moodBy_24 : decode cX7_moodBy 24 = .ok (.if_icmp .ge 5, 3) := by decide +kernel
theorem dX7_moodBy_27 : decode cX7_moodBy 27 = .ok (.iconst 0, 1) := by decide +kernel
theorem dX7_moodBy_28 : decode cX7_moodBy 28 = .ok (.ireturn, 1) := by decide +kernel
theorem dX7_moodBy_29 : decode cX7_moodBy 29 = .ok (.iload_n 2, 1) := by decide +kernel
theorem dX7_moodBy_30 : decode cX7_moodBy 30 = .ok (.aload_n 0, 1) := by decide +kernel
theorem dX7_moodBy_31 : decode cX7_moodBy 31 = .ok (.getfield 24, 3) := by decide +kernel
theorem dX7_moodBy_34 : decode cX7_moodBy 34 = .ok (.getfield 72, 3) := by decide +kernel
theorem dX7_moodBy_37 : decode cX7_moodBy 37 = .ok (.iload_n 1, 1) := by decide +kernel
theorem dX7_moodBy_38 : decode cX7_moodBy 38 = .ok (.iaload, 1) := by decide +kernel
theorem dX7_moodBy_39 : decode cX7_moodBy 39 = .ok (.if_icmp .gt 7, 3) := by decide +kernel
theorem dX7_moodBy_42 : decode cX7_moodBy 42 = .ok (.iconst 1, 1) := by decide +kernel
theorem dX7_moodBy_43 : decode cX7_moodBy 43 = .ok (.goto 4, 3) := by decide +kernel
theorem dX7_moodBy_46 : decode cX7_moodBy 46 = .ok (.iconst 2, 1) := by decide +kernel
theorem dX7_moodBy_47 : decode cX7_moodBy 47 = .ok (.ireturn, 1) := by decide +kernel
theorem dX7_moodTo_0 : decode cX7_moodTo 0 = .ok (.aload_n 0, 1) := by decide +kernel
theorem dX7_moodTo_1 : decode cX7_moodTo 1 = .ok (.iload_n 2, 1) := by decide +kernel
theorem dX7_moodTo_2 : decode cX7_moodTo 2 = .ok (.aload_n 0, 1) := by decide +kernel
theorem dX7_moodTo_3 : decode cX7_moodTo 3 = .ok (.iload_n 1, 1) := by decide +kernel
theorem dX7_moodTo_4 : decode cX7_moodTo 4 = .ok (.iload_n 2, 1) := by decide +kernel
theorem dX7_moodTo_5 : decode cX7_moodTo 5 = .ok (.invokevirtual 52, 3) := by decide +kernel
theorem dX7_moodTo_8 : decode cX7_moodTo 8 = .ok (.aload_n 0, 1) := by decide +kernel
theorem dX7_moodTo_9 : decode cX7_moodTo 9 = .ok (.iload_n 1, 1) := by decide +kernel
theorem dX7_moodTo_10 : decode cX7_moodTo 10 = .ok (.iload_n 2, 1) := by decide +kernel
theorem dX7_moodTo_11 : decode cX7_moodTo 11 = .ok (.invokevirtual 75, 3) := by decide +kernel
theorem dX7_moodTo_14 : decode cX7_moodTo 14 = .ok (.invokevirtual 79, 3) := by decide +kernel
theorem dX7_moodTo_17 : decode cX7_moodTo 17 = .ok (.ireturn, 1) := by decide +kernel
theorem dX7_personsByMood_0 : decode cX7_personsByMood 0 = .ok (.iconst 0, 1) := by decide +kernel
theorem dX7_personsByMood_1 : decode cX7_personsByMood 1 = .ok (.istore_n 3, 1) := by decide +kernel
theorem dX7_personsByMood_2 : decode cX7_personsByMood 2 = .ok (.iconst 0, 1) := by decide +kernel
theorem dX7_personsByMood_3 : decode cX7_personsByMood 3 = .ok (.istore 4, 2) := by decide +kernel
theorem dX7_personsByMood_5 : decode cX7_personsByMood 5 = .ok (.iload 4, 2) := by decide +kernel
theorem dX7_personsByMood_7 : decode cX7_personsByMood 7 = .ok (.aload_n 0, 1) := by decide +kernel
theorem dX7_personsByMood_8 : decode cX7_personsByMood 8 = .ok (.getfield 24, 3) := by decide +kernel
theorem dX7_personsByMood_11 : decode cX7_personsByMood 11 = .ok (.getfield 55, 3) := by decide +kernel
theorem dX7_personsByMood_14 : decode cX7_personsByMood 14 = .ok (.if_icmp .ge 27, 3) := by decide +kernel
theorem dX7_personsByMood_17 : decode cX7_personsByMood 17 = .ok (.aload_n 0, 1) := by decide +kernel
theorem dX7_personsByMood_18 : decode cX7_personsByMood 18 = .ok (.iload 4, 2) := by decide +kernel
theorem dX7_personsByMood_20 : decode cX7_personsByMood 20 = .ok (.iload_n 1, 1) := by decide +kernel
theorem dX7_personsByMood_21 : decode cX7_personsByMood 21 = .ok (.invokevirtual 83, 3) := by decide +kernel
theorem dX7_personsByMood_24 : decode cX7_personsByMood 24 = .ok (.iload_n 2, 1) := by decide +kernel
theorem dX7_personsByMood_25 : decode cX7_personsByMood 25 = .ok (.if_icmp .ne 10, 3) := by decide +kernel
theorem dX7_personsByMood_28 : decode cX7_personsByMood 28 = .ok (.iload_n 3, 1) := by decide +kernel
theorem dX7_personsByMood_29 : decode cX7_personsByMood 29 = .ok (.iconst 1, 1) := by decide +kernel
theorem dX7_personsByMood_30 : decode cX7_personsByMood 30 = .ok (.iload 4, 2) := by decide +kernel
theorem dX7_personsByMood_32 : decode cX7_personsByMood 32 = .ok (.ishl, 1) := by decide +kernel
theorem dX7_personsByMood_33 : decode cX7_personsByMood 33 = .ok (.ior, 1) := by decide +kernel
theorem dX7_personsByMood_34 : decode cX7_personsByMood 34 = .ok (.istore_n 3, 1) := by decide +kernel
theorem dX7_personsByMood_35 : decode cX7_personsByMood 35 = .ok (.iinc 4 1, 3) := by decide +kernel
theorem dX7_personsByMood_38 : decode cX7_personsByMood 38 = .ok (.goto (-33), 3) := by decide +kernel
theorem dX7_personsByMood_41 : decode cX7_personsByMood 41 = .ok (.iload_n 3, 1) := by decide +kernel
theorem dX7_personsByMood_42 : decode cX7_personsByMood 42 = .ok (.ireturn, 1) := by decide +kernel
theorem dX7_worthOf_0 : decode cX7_worthOf 0 = .ok (.iload_n 2, 1) := by decide +kernel
theorem dX7_worthOf_1 : decode cX7_worthOf 1 = .ok (.iconst 1, 1) := by decide +kernel
theorem dX7_worthOf_2 : decode cX7_worthOf 2 = .ok (.if_icmp .ne 15, 3) := by decide +kernel
theorem dX7_worthOf_5 : decode cX7_worthOf 5 = .ok (.aload_n 0, 1) := by decide +kernel
theorem dX7_worthOf_6 : decode cX7_worthOf 6 = .ok (.getfield 24, 3) := by decide +kernel
theorem dX7_worthOf_9 : decode cX7_worthOf 9 = .ok (.getfield 86, 3) := by decide +kernel
theorem dX7_worthOf_12 : decode cX7_worthOf 12 = .ok (.iload_n 1, 1) := by decide +kernel
theorem dX7_worthOf_13 : decode cX7_worthOf 13 = .ok (.iaload, 1) := by decide +kernel
theorem dX7_worthOf_14 : decode cX7_worthOf 14 = .ok (.goto 13, 3) := by decide +kernel
theorem dX7_worthOf_17 : decode cX7_worthOf 17 = .ok (.iload_n 2, 1) := by decide +kernel
theorem dX7_worthOf_18 : decode cX7_worthOf 18 = .ok (.iconst 2, 1) := by decide +kernel
theorem dX7_worthOf_19 : decode cX7_worthOf 19 = .ok (.if_icmp .ne 7, 3) := by decide +kernel
theorem dX7_worthOf_22 : decode cX7_worthOf 22 = .ok (.iconst (-1), 1) := by decide +kernel
theorem dX7_worthOf_23 : decode cX7_worthOf 23 = .ok (.goto 4, 3) := by decide +kernel
theorem dX7_worthOf_26 : decode cX7_worthOf 26 = .ok (.iconst 0, 1) := by decide +kernel
theorem dX7_worthOf_27 : decode cX7_worthOf 27 = .ok (.ireturn, 1) := by decide +kernel
theorem dX7_standingOf_0 : decode cX7_standingOf 0 = .ok (.iconst 0, 1) := by decide +kernel
theorem dX7_standingOf_1 : decode cX7_standingOf 1 = .ok (.istore_n 2, 1) := by decide +kernel
theorem dX7_standingOf_2 : decode cX7_standingOf 2 = .ok (.iconst 0, 1) := by decide +kernel
theorem dX7_standingOf_3 : decode cX7_standingOf 3 = .ok (.istore_n 3, 1) := by decide +kernel
theorem dX7_standingOf_4 : decode cX7_standingOf 4 = .ok (.iload_n 3, 1) := by decide +kernel
theorem dX7_standingOf_5 : decode cX7_standingOf 5 = .ok (.aload_n 0, 1) := by decide +kernel
theorem dX7_standingOf_6 : decode cX7_standingOf 6 = .ok (.getfield 24, 3) := by decide +kernel
theorem dX7_standingOf_9 : decode cX7_standingOf 9 = .ok (.getfield 47, 3) := by decide +kernel
theorem dX7_standingOf_12 : decode cX7_standingOf 12 = .ok (.if_icmp .ge 23, 3) := by decide +kernel
theorem dX7_standingOf_15 : decode cX7_standingOf 15 = .ok (.iload_n 2, 1) := by decide +kernel
theorem dX7_standingOf_16 : decode cX7_standingOf 16 = .ok (.aload_n 0, 1) := by decide +kernel
theorem dX7_standingOf_17 : decode cX7_standingOf 17 = .ok (.iload_n 3, 1) := by decide +kernel
theorem dX7_standingOf_18 : decode cX7_standingOf 18 = .ok (.aload_n 0, 1) := by decide +kernel
theorem dX7_standingOf_19 : decode cX7_standingOf 19 = .ok (.iload_n 1, 1) := by decide +kernel
theorem dX7_standingOf_20 : decode cX7_standingOf 20 = .ok (.iload_n 3, 1) := by decide +kernel
theorem dX7_standingOf_21 : decode cX7_standingOf 21 = .ok (.invokevirtual 83, 3) := by decide +kernel
theorem dX7_standingOf_24 : decode cX7_standingOf 24 = .ok (.invokevirtual 89, 3) := by decide +kernel
theorem dX7_standingOf_27 : decode cX7_standingOf 27 = .ok (.iadd, 1) := by decide +kernel
theorem dX7_standingOf_28 : decode cX7_standingOf 28 = .ok (.istore_n 2, 1) := by decide +kernel
theorem dX7_standingOf_29 : decode cX7_standingOf 29 = .ok (.iinc 3 1, 3) := by decide +kernel
theorem dX7_standingOf_32 : decode cX7_standingOf 32 = .ok (.goto (-28), 3) := by decide +kernel
theorem dX7_standingOf_35 : decode cX7_standingOf 35 = .ok (.iload_n 2, 1) := by decide +kernel
theorem dX7_standingOf_36 : decode cX7_standingOf 36 = .ok (.ireturn, 1) := by decide +kernel
theorem dX7_standingJoined_0 : decode cX7_standingJoined 0 = .ok (.iconst 0, 1) := by decide +kernel
theorem dX7_standingJoined_1 : decode cX7_standingJoined 1 = .ok (.istore_n 3, 1) := by decide +kernel
theorem dX7_standingJoined_2 : decode cX7_standingJoined 2 = .ok (.iconst 0, 1) := by decide +kernel
theorem dX7_standingJoined_3 : decode cX7_standingJoined 3 = .ok (.istore 4, 2) := by decide +kernel
theorem dX7_standingJoined_5 : decode cX7_standingJoined 5 = .ok (.iload 4, 2) := by decide +kernel
theorem dX7_standingJoined_7 : decode cX7_standingJoined 7 = .ok (.aload_n 0, 1) := by decide +kernel
theorem dX7_standingJoined_8 : decode cX7_standingJoined 8 = .ok (.getfield 24, 3) := by decide +kernel
theorem dX7_standingJoined_11 : decode cX7_standingJoined 11 = .ok (.getfield 47, 3) := by decide +kernel
theorem dX7_standingJoined_14 : decode cX7_standingJoined 14 = .ok (.if_icmp .ge 78, 3) := by decide +kernel
theorem dX7_standingJoined_17 : decode cX7_standingJoined 17 = .ok (.aload_n 0, 1) := by decide +kernel
theorem dX7_standingJoined_18 : decode cX7_standingJoined 18 = .ok (.iload_n 1, 1) := by decide +kernel
theorem dX7_standingJoined_19 : decode cX7_standingJoined 19 = .ok (.iload 4, 2) := by decide +kernel
theorem dX7_standingJoined_21 : decode cX7_standingJoined 21 = .ok (.invokevirtual 75, 3) := by decide +kernel
theorem dX7_standingJoined_24 : decode cX7_standingJoined 24 = .ok (.ifCond .ne 13, 3) := by decide +kernel
theorem dX7_standingJoined_27 : decode cX7_standingJoined 27 = .ok (.aload_n 0, 1) := by decide +kernel
theorem dX7_standingJoined_28 : decode cX7_standingJoined 28 = .ok (.iload_n 2, 1) := by decide +kernel
theorem dX7_standingJoined_29 : decode cX7_standingJoined 29 = .ok (.iload 4, 2) := by decide +kernel
theorem dX7_standingJoined_31 : decode cX7_standingJoined 31 = .ok (.invokevirtual 75, 3) := by decide +kernel
theorem dX7_standingJoined_34 : decode cX7_standingJoined 34 = .ok (.ifCond .eq 7, 3) := by decide +kernel
theorem dX7_standingJoined_37 : decode cX7_standingJoined 37 = .ok (.iconst 1, 1) := by decide +kernel
theorem dX7_standingJoined_38 : decode cX7_standingJoined 38 = .ok (.goto 4, 3) := by decide +kernel
theorem dX7_standingJoined_41 : decode cX7_standingJoined 41 = .ok (.iconst 0, 1) := by decide +kernel
theorem dX7_standingJoined_42 : decode cX7_standingJoined 42 = .ok (.istore 5, 2) := by decide +kernel
theorem dX7_standingJoined_44 : decode cX7_standingJoined 44 = .ok (.sipush 9999, 3) := by decide +kernel
theorem dX7_standingJoined_47 : decode cX7_standingJoined 47 = .ok (.aload_n 0, 1) := by decide +kernel
theorem dX7_standingJoined_48 : decode cX7_standingJoined 48 = .ok (.iload_n 1, 1) := by decide +kernel
theorem dX7_standingJoined_49 : decode cX7_standingJoined 49 = .ok (.iload 4, 2) := by decide +kernel
theorem dX7_standingJoined_51 : decode cX7_standingJoined 51 = .ok (.invokevirtual 52, 3) := by decide +kernel
theorem dX7_standingJoined_54 : decode cX7_standingJoined 54 = .ok (.aload_n 0, 1) := by decide +kernel
theorem dX7_standingJoined_55 : decode cX7_standingJoined 55 = .ok (.iload_n 2, 1) := by decide +kernel
theorem dX7_standingJoined_56 : decode cX7_standingJoined 56 = .ok (.iload 4, 2) := by decide +kernel
theorem dX7_standingJoined_58 : decode cX7_standingJoined 58 = .ok (.invokevirtual 52, 3) := by decide +kernel
theorem dX7_standingJoined_61 : decode cX7_standingJoined 61 = .ok (.iadd, 1) := by decide +kernel
theorem dX7_standingJoined_62 : decode cX7_standingJoined 62 = .ok (.invokestatic 41, 3) := by decide +kernel
theorem dX7_standingJoined_65 : decode cX7_standingJoined 65 = .ok (.istore 6, 2) := by decide +kernel
theorem dX7_standingJoined_67 : decode cX7_standingJoined 67 = .ok (.iload_n 3, 1) := by decide +kernel
theorem dX7_standingJoined_68 : decode cX7_standingJoined 68 = .ok (.aload_n 0, 1) := by decide +kernel
theorem dX7_standingJoined_69 : decode cX7_standingJoined 69 = .ok (.iload 4, 2) := by decide +kernel
theorem dX7_standingJoined_71 : decode cX7_standingJoined 71 = .ok (.aload_n 0, 1) := by decide +kernel
theorem dX7_standingJoined_72 : decode cX7_standingJoined 72 = .ok (.iload 4, 2) := by decide +kernel
theorem dX7_standingJoined_74 : decode cX7_standingJoined 74 = .ok (.iload 6, 2) := by decide +kernel
theorem dX7_standingJoined_76 : decode cX7_standingJoined 76 = .ok (.iload 5, 2) := by decide +kernel
theorem dX7_standingJoined_78 : decode cX7_standingJoined 78 = .ok (.invokevirtual 79, 3) := by decide +kernel
theorem dX7_standingJoined_81 : decode cX7_standingJoined 81 = .ok (.invokevirtual 89, 3) := by decide +kernel
theorem dX7_standingJoined_84 : decode cX7_standingJoined 84 = .ok (.iadd, 1) := by decide +kernel
theorem dX7_standingJoined_85 : decode cX7_standingJoined 85 = .ok (.istore_n 3, 1) := by decide +kernel
theorem dX7_standingJoined_86 : decode cX7_standingJoined 86 = .ok (.iinc 4 1, 3) := by decide +kernel
theorem dX7_standingJoined_89 : decode cX7_standingJoined 89 = .ok (.goto (-84), 3) := by decide +kernel
theorem dX7_standingJoined_92 : decode cX7_standingJoined 92 = .ok (.iload_n 3, 1) := by decide +kernel
theorem dX7_standingJoined_93 : decode cX7_standingJoined 93 = .ok (.ireturn, 1) := by decide +kernel
theorem dX7_mayBorrow_0 : decode cX7_mayBorrow 0 = .ok (.aload_n 0, 1) := by decide +kernel
theorem dX7_mayBorrow_1 : decode cX7_mayBorrow 1 = .ok (.iload_n 1, 1) := by decide +kernel
theorem dX7_mayBorrow_2 : decode cX7_mayBorrow 2 = .ok (.invokevirtual 92, 3) := by decide +kernel
theorem dX7_mayBorrow_5 : decode cX7_mayBorrow 5 = .ok (.ifCond .ne 25, 3) := by decide +kernel
theorem dX7_mayBorrow_8 : decode cX7_mayBorrow 8 = .ok (.aload_n 0, 1) := by decide +kernel
theorem dX7_mayBorrow_9 : decode cX7_mayBorrow 9 = .ok (.iload_n 2, 1) := by decide +kernel
theorem dX7_mayBorrow_10 : decode cX7_mayBorrow 10 = .ok (.invokevirtual 66, 3) := by decide +kernel
theorem dX7_mayBorrow_13 : decode cX7_mayBorrow 13 = .ok (.ifCond .ne 17, 3) := by decide +kernel
theorem dX7_mayBorrow_16 : decode cX7_mayBorrow 16 = .ok (.aload_n 0, 1) := by decide +kernel
theorem dX7_mayBorrow_17 : decode cX7_mayBorrow 17 = .ok (.getfield 15, 3) := by decide +kernel
theorem dX7_mayBorrow_20 : decode cX7_mayBorrow 20 = .ok (.iload_n 2, 1) := by decide +kernel
theorem dX7_mayBorrow_21 : decode cX7_mayBorrow 21 = .ok (.iaload, 1) := by decide +kernel
theorem dX7_mayBorrow_22 : decode cX7_mayBorrow 22 = .ok (.iload_n 3, 1) := by decide +kernel
theorem dX7_mayBorrow_23 : decode cX7_mayBorrow 23 = .ok (.if_icmp .lt 7, 3) := by decide +kernel
theorem dX7_mayBorrow_26 : decode cX7_mayBorrow 26 = .ok (.iconst 1, 1) := by decide +kernel
theorem dX7_mayBorrow_27 : decode cX7_mayBorrow 27 = .ok (.goto 4, 3) := by decide +kernel
theorem dX7_mayBorrow_30 : decode cX7_mayBorrow 30 = .ok (.iconst 0, 1) := by decide +kernel
theorem dX7_mayBorrow_31 : decode cX7_mayBorrow 31 = .ok (.ireturn, 1) := by decide +kernel
theorem dX7_lend_0 : decode cX7_lend 0 = .ok (.aload_n 0, 1) := by decide +kernel
theorem dX7_lend_1 : decode cX7_lend 1 = .ok (.iload_n 1, 1) := by decide +kernel
theorem dX7_lend_2 : decode cX7_lend 2 = .ok (.iload_n 2, 1) := by decide +kernel
theorem dX7_lend_3 : decode cX7_lend 3 = .ok (.aload_n 0, 1) := by decide +kernel
theorem dX7_lend_4 : decode cX7_lend 4 = .ok (.iload_n 1, 1) := by decide +kernel
theorem dX7_lend_5 : decode cX7_lend 5 = .ok (.iload_n 2, 1) := by decide +kernel
theorem dX7_lend_6 : decode cX7_lend 6 = .ok (.invokevirtual 52, 3) := by decide +kernel
theorem dX7_lend_9 : decode cX7_lend 9 = .ok (.iload_n 3, 1) := by decide +kernel
theorem dX7_lend_10 : decode cX7_lend 10 = .ok (.iadd, 1) := by decide +kernel
theorem dX7_lend_11 : decode cX7_lend 11 = .ok (.invokevirtual 95, 3) := by decide +kernel
theorem dX7_lend_14 : decode cX7_lend 14 = .ok (.aload_n 0, 1) := by decide +kernel
theorem dX7_lend_15 : decode cX7_lend 15 = .ok (.getfield 15, 3) := by decide +kernel
theorem dX7_lend_18 : decode cX7_lend 18 = .ok (.iload_n 2, 1) := by decide +kernel
theorem dX7_lend_19 : decode cX7_lend 19 = .ok (.dup2, 1) := by decide +kernel
theorem dX7_lend_20 : decode cX7_lend 20 = .ok (.iaload, 1) := by decide +kernel
theorem dX7_lend_21 : decode cX7_lend 21 = .ok (.iload_n 3, 1) := by decide +kernel
theorem dX7_lend_22 : decode cX7_lend 22 = .ok (.isub, 1) := by decide +kernel
theorem dX7_lend_23 : decode cX7_lend 23 = .ok (.iastore, 1) := by decide +kernel
theorem dX7_lend_24 : decode cX7_lend 24 = .ok (.return_, 1) := by decide +kernel
theorem dX7_settle_0 : decode cX7_settle 0 = .ok (.aload_n 0, 1) := by decide +kernel
theorem dX7_settle_1 : decode cX7_settle 1 = .ok (.iload_n 1, 1) := by decide +kernel
theorem dX7_settle_2 : decode cX7_settle 2 = .ok (.iload_n 2, 1) := by decide +kernel
theorem dX7_settle_3 : decode cX7_settle 3 = .ok (.invokevirtual 52, 3) := by decide +kernel
theorem dX7_settle_6 : decode cX7_settle 6 = .ok (.istore 4, 2) := by decide +kernel
theorem dX7_settle_8 : decode cX7_settle 8 = .ok (.iload_n 3, 1) := by decide +kernel
theorem dX7_settle_9 : decode cX7_settle 9 = .ok (.bipush 100, 2) := by decide +kernel
theorem dX7_settle_11 : decode cX7_settle 11 = .ok (.imul, 1) := by decide +kernel
theorem dX7_settle_12 : decode cX7_settle 12 = .ok (.aload_n 0, 1) := by decide +kernel
theorem dX7_settle_13 : decode cX7_settle 13 = .ok (.getfield 24, 3) := by decide +kernel
theorem dX7_settle_16 : decode cX7_settle 16 = .ok (.getfield 99, 3) := by decide +kernel
theorem dX7_settle_19 : decode cX7_settle 19 = .ok (.iload 4, 2) := by decide +kernel
theorem dX7_settle_21 : decode cX7_settle 21 = .ok (.imul, 1) := by decide +kernel
theorem dX7_settle_22 : decode cX7_settle 22 = .ok (.if_icmp .le 15, 3) := by decide +kernel
theorem dX7_settle_25 : decode cX7_settle 25 = .ok (.aload_n 0, 1) := by decide +kernel
theorem dX7_settle_26 : decode cX7_settle 26 = .ok (.getfield 18, 3) := by decide +kernel
theorem dX7_settle_29 : decode cX7_settle 29 = .ok (.iload_n 1, 1) := by decide +kernel
theorem dX7_settle_30 : decode cX7_settle 30 = .ok (.dup2, 1) := by decide +kernel
theorem dX7_settle_31 : decode cX7_settle 31 = .ok (.iaload, 1) := by decide +kernel
theorem dX7_settle_32 : decode cX7_settle 32 = .ok (.iconst 1, 1) := by decide +kernel
theorem dX7_settle_33 : decode cX7_settle 33 = .ok (.iload_n 2, 1) := by decide +kernel
theorem dX7_settle_34 : decode cX7_settle 34 = .ok (.ishl, 1) := by decide +kernel
theorem dX7_settle_35 : decode cX7_settle 35 = .ok (.ior, 1) := by decide +kernel
theorem dX7_settle_36 : decode cX7_settle 36 = .ok (.iastore, 1) := by decide +kernel
theorem dX7_settle_37 : decode cX7_settle 37 = .ok (.aload_n 0, 1) := by decide +kernel
theorem dX7_settle_38 : decode cX7_settle 38 = .ok (.iload_n 1, 1) := by decide +kernel
theorem dX7_settle_39 : decode cX7_settle 39 = .ok (.iload_n 2, 1) := by decide +kernel
theorem dX7_settle_40 : decode cX7_settle 40 = .ok (.iload 4, 2) := by decide +kernel
theorem dX7_settle_42 : decode cX7_settle 42 = .ok (.iload_n 3, 1) := by decide +kernel
theorem dX7_settle_43 : decode cX7_settle 43 = .ok (.isub, 1) := by decide +kernel
theorem dX7_settle_44 : decode cX7_settle 44 = .ok (.invokevirtual 95, 3) := by decide +kernel
theorem dX7_settle_47 : decode cX7_settle 47 = .ok (.aload_n 0, 1) := by decide +kernel
theorem dX7_settle_48 : decode cX7_settle 48 = .ok (.getfield 15, 3) := by decide +kernel
theorem dX7_settle_51 : decode cX7_settle 51 = .ok (.iload_n 2, 1) := by decide +kernel
theorem dX7_settle_52 : decode cX7_settle 52 = .ok (.sipush 9999, 3) := by decide +kernel
theorem dX7_settle_55 : decode cX7_settle 55 = .ok (.aload_n 0, 1) := by decide +kernel
theorem dX7_settle_56 : decode cX7_settle 56 = .ok (.getfield 15, 3) := by decide +kernel
theorem dX7_settle_59 : decode cX7_settle 59 = .ok (.iload_n 2, 1) := by decide +kernel
theorem dX7_settle_60 : decode cX7_settle 60 = .ok (.iaload, 1) := by decide +kernel
theorem dX7_settle_61 : decode cX7_settle 61 = .ok (.iload_n 3, 1) := by decide +kernel
theorem dX7_settle_62 : decode cX7_settle 62 = .ok (.iadd, 1) := by decide +kernel
theorem dX7_settle_63 : decode cX7_settle 63 = .ok (.invokestatic 41, 3) := by decide +kernel
theorem dX7_settle_66 : decode cX7_settle 66 = .ok (.iastore, 1) := by decide +kernel
theorem dX7_settle_67 : decode cX7_settle 67 = .ok (.return_, 1) := by decide +kernel
theorem dX7_unite_0 : decode cX7_unite 0 = .ok (.iconst 0, 1) := by decide +kernel
theorem dX7_unite_1 : decode cX7_unite 1 = .ok (.istore_n 3, 1) := by decide +kernel
theorem dX7_unite_2 : decode cX7_unite 2 = .ok (.iload_n 3, 1) := by decide +kernel
theorem dX7_unite_3 : decode cX7_unite 3 = .ok (.aload_n 0, 1) := by decide +kernel
theorem dX7_unite_4 : decode cX7_unite 4 = .ok (.getfield 24, 3) := by decide +kernel
theorem dX7_unite_7 : decode cX7_unite 7 = .ok (.getfield 47, 3) := by decide +kernel
theorem dX7_unite_10 : decode cX7_unite 10 = .ok (.if_icmp .ge 35, 3) := by decide +kernel
theorem dX7_unite_13 : decode cX7_unite 13 = .ok (.aload_n 0, 1) := by decide +kernel
theorem dX7_unite_14 : decode cX7_unite 14 = .ok (.iload_n 1, 1) := by decide +kernel
theorem dX7_unite_15 : decode cX7_unite 15 = .ok (.iload_n 3, 1) := by decide +kernel
theorem dX7_unite_16 : decode cX7_unite 16 = .ok (.aload_n 0, 1) := by decide +kernel
theorem dX7_unite_17 : decode cX7_unite 17 = .ok (.iload_n 1, 1) := by decide +kernel
theorem dX7_unite_18 : decode cX7_unite 18 = .ok (.iload_n 3, 1) := by decide +kernel
theorem dX7_unite_19 : decode cX7_unite 19 = .ok (.invokevirtual 52, 3) := by decide +kernel
theorem dX7_unite_22 : decode cX7_unite 22 = .ok (.aload_n 0, 1) := by decide +kernel
theorem dX7_unite_23 : decode cX7_unite 23 = .ok (.iload_n 2, 1) := by decide +kernel
theorem dX7_unite_24 : decode cX7_unite 24 = .ok (.iload_n 3, 1) := by decide +kernel
theorem dX7_unite_25 : decode cX7_unite 25 = .ok (.invokevirtual 52, 3) := by decide +kernel
theorem dX7_unite_28 : decode cX7_unite 28 = .ok (.iadd, 1) := by decide +kernel
theorem dX7_unite_29 : decode cX7_unite 29 = .ok (.invokevirtual 95, 3) := by decide +kernel
theorem dX7_unite_32 : decode cX7_unite 32 = .ok (.aload_n 0, 1) := by decide +kernel
theorem dX7_unite_33 : decode cX7_unite 33 = .ok (.iload_n 2, 1) := by decide +kernel
theorem dX7_unite_34 : decode cX7_unite 34 = .ok (.iload_n 3, 1) := by decide +kernel
theorem dX7_unite_35 : decode cX7_unite 35 = .ok (.iconst 0, 1) := by decide +kernel
theorem dX7_unite_36 : decode cX7_unite 36 = .ok (.invokevirtual 95, 3) := by decide +kernel
theorem dX7_unite_39 : decode cX7_unite 39 = .ok (.iinc 3 1, 3) := by decide +kernel
theorem dX7_unite_42 : decode cX7_unite 42 = .ok (.goto (-40), 3) := by decide +kernel
theorem dX7_unite_45 : decode cX7_unite 45 = .ok (.aload_n 0, 1) := by decide +kernel
theorem dX7_unite_46 : decode cX7_unite 46 = .ok (.getfield 18, 3) := by decide +kernel
theorem dX7_unite_49 : decode cX7_unite 49 = .ok (.iload_n 1, 1) := by decide +kernel
theorem dX7_unite_50 : decode cX7_unite 50 = .ok (.dup2, 1) := by decide +kernel
theorem dX7_unite_51 : decode cX7_unite 51 = .ok (.iaload, 1) := by decide +kernel
theorem dX7_unite_52 : decode cX7_unite 52 = .ok (.aload_n 0, 1) := by decide +kernel
theorem dX7_unite_53 : decode cX7_unite 53 = .ok (.getfield 18, 3) := by decide +kernel
theorem dX7_unite_56 : decode cX7_unite 56 = .ok (.iload_n 2, 1) := by decide +kernel
theorem dX7_unite_57 : decode cX7_unite 57 = .ok (.iaload, 1) := by decide +kernel
theorem dX7_unite_58 : decode cX7_unite 58 = .ok (.ior, 1) := by decide +kernel
theorem dX7_unite_59 : decode cX7_unite 59 = .ok (.iastore, 1) := by decide +kernel
theorem dX7_unite_60 : decode cX7_unite 60 = .ok (.aload_n 0, 1) := by decide +kernel
theorem dX7_unite_61 : decode cX7_unite 61 = .ok (.getfield 18, 3) := by decide +kernel
theorem dX7_unite_64 : decode cX7_unite 64 = .ok (.iload_n 2, 1) := by decide +kernel
theorem dX7_unite_65 : decode cX7_unite 65 = .ok (.iconst 0, 1) := by decide +kernel
theorem dX7_unite_66 : decode cX7_unite 66 = .ok (.iastore, 1) := by decide +kernel
theorem dX7_unite_67 : decode cX7_unite 67 = .ok (.aload_n 0, 1) := by decide +kernel
theorem dX7_unite_68 : decode cX7_unite 68 = .ok (.getfield 21, 3) := by decide +kernel
theorem dX7_unite_71 : decode cX7_unite 71 = .ok (.iload_n 1, 1) := by decide +kernel
theorem dX7_unite_72 : decode cX7_unite 72 = .ok (.iload_n 2, 1) := by decide +kernel
theorem dX7_unite_73 : decode cX7_unite 73 = .ok (.iastore, 1) := by decide +kernel
theorem dX7_unite_74 : decode cX7_unite 74 = .ok (.aload_n 0, 1) := by decide +kernel
theorem dX7_unite_75 : decode cX7_unite 75 = .ok (.getfield 21, 3) := by decide +kernel
theorem dX7_unite_78 : decode cX7_unite 78 = .ok (.iload_n 2, 1) := by decide +kernel
theorem dX7_unite_79 : decode cX7_unite 79 = .ok (.iload_n 1, 1) := by decide +kernel
theorem dX7_unite_80 : decode cX7_unite 80 = .ok (.iastore, 1) := by decide +kernel
theorem dX7_unite_81 : decode cX7_unite 81 = .ok (.return_, 1) := by decide +kernel
theorem dX7_part_0 : decode cX7_part 0 = .ok (.iconst 0, 1) := by decide +kernel
theorem dX7_part_1 : decode cX7_part 1 = .ok (.istore_n 3, 1) := by decide +kernel
theorem dX7_part_2 : decode cX7_part 2 = .ok (.iload_n 3, 1) := by decide +kernel
theorem dX7_part_3 : decode cX7_part 3 = .ok (.aload_n 0, 1) := by decide +kernel
theorem dX7_part_4 : decode cX7_part 4 = .ok (.getfield 24, 3) := by decide +kernel
theorem dX7_part_7 : decode cX7_part 7 = .ok (.getfield 47, 3) := by decide +kernel
theorem dX7_part_10 : decode cX7_part 10 = .ok (.if_icmp .ge 42, 3) := by decide +kernel
theorem dX7_part_13 : decode cX7_part 13 = .ok (.aload_n 0, 1) := by decide +kernel
theorem dX7_part_14 : decode cX7_part 14 = .ok (.iload_n 1, 1) := by decide +kernel
theorem dX7_part_15 : decode cX7_part 15 = .ok (.iload_n 3, 1) := by decide +kernel
theorem dX7_part_16 : decode cX7_part 16 = .ok (.invokevirtual 52, 3) := by decide +kernel
theorem dX7_part_19 : decode cX7_part 19 = .ok (.iconst 2, 1) := by decide +kernel
theorem dX7_part_20 : decode cX7_part 20 = .ok (.idiv, 1) := by decide +kernel
theorem dX7_part_21 : decode cX7_part 21 = .ok (.istore 4, 2) := by decide +kernel
theorem dX7_part_23 : decode cX7_part 23 = .ok (.aload_n 0, 1) := by decide +kernel
theorem dX7_part_24 : decode cX7_part 24 = .ok (.iload_n 2, 1) := by decide +kernel
theorem dX7_part_25 : decode cX7_part 25 = .ok (.iload_n 3, 1) := by decide +kernel
theorem dX7_part_26 : decode cX7_part 26 = .ok (.iload 4, 2) := by decide +kernel
theorem dX7_part_28 : decode cX7_part 28 = .ok (.invokevirtual 95, 3) := by decide +kernel
theorem dX7_part_31 : decode cX7_part 31 = .ok (.aload_n 0, 1) := by decide +kernel
theorem dX7_part_32 : decode cX7_part 32 = .ok (.iload_n 1, 1) := by decide +kernel
theorem dX7_part_33 : decode cX7_part 33 = .ok (.iload_n 3, 1) := by decide +kernel
theorem dX7_part_34 : decode cX7_part 34 = .ok (.aload_n 0, 1) := by decide +kernel
theorem dX7_part_35 : decode cX7_part 35 = .ok (.iload_n 1, 1) := by decide +kernel
theorem dX7_part_36 : decode cX7_part 36 = .ok (.iload_n 3, 1) := by decide +kernel
theorem dX7_part_37 : decode cX7_part 37 = .ok (.invokevirtual 52, 3) := by decide +kernel
theorem dX7_part_40 : decode cX7_part 40 = .ok (.iload 4, 2) := by decide +kernel
theorem dX7_part_42 : decode cX7_part 42 = .ok (.isub, 1) := by decide +kernel
theorem dX7_part_43 : decode cX7_part 43 = .ok (.invokevirtual 95, 3) := by decide +kernel
theorem dX7_part_46 : decode cX7_part 46 = .ok (.iinc 3 1, 3) := by decide +kernel
theorem dX7_part_49 : decode cX7_part 49 = .ok (.goto (-47), 3) := by decide +kernel
theorem dX7_part_52 : decode cX7_part 52 = .ok (.aload_n 0, 1) := by decide +kernel
theorem dX7_part_53 : decode cX7_part 53 = .ok (.getfield 18, 3) := by decide +kernel
theorem dX7_part_56 : decode cX7_part 56 = .ok (.iload_n 2, 1) := by decide +kernel
theorem dX7_part_57 : decode cX7_part 57 = .ok (.aload_n 0, 1) := by decide +kernel
theorem dX7_part_58 : decode cX7_part 58 = .ok (.getfield 18, 3) := by decide +kernel
theorem dX7_part_61 : decode cX7_part 61 = .ok (.iload_n 1, 1) := by decide +kernel
theorem dX7_part_62 : decode cX7_part 62 = .ok (.iaload, 1) := by decide +kernel
theorem dX7_part_63 : decode cX7_part 63 = .ok (.iastore, 1) := by decide +kernel
theorem dX7_part_64 : decode cX7_part 64 = .ok (.aload_n 0, 1) := by decide +kernel
theorem dX7_part_65 : decode cX7_part 65 = .ok (.getfield 21, 3) := by decide +kernel
theorem dX7_part_68 : decode cX7_part 68 = .ok (.iload_n 1, 1) := by decide +kernel
theorem dX7_part_69 : decode cX7_part 69 = .ok (.iconst (-1), 1) := by decide +kernel
theorem dX7_part_70 : decode cX7_part 70 = .ok (.iastore, 1) := by decide +kernel
theorem dX7_part_71 : decode cX7_part 71 = .ok (.aload_n 0, 1) := by decide +kernel
theorem dX7_part_72 : decode cX7_part 72 = .ok (.getfield 21, 3) := by decide +kernel
theorem dX7_part_75 : decode cX7_part 75 = .ok (.iload_n 2, 1) := by decide +kernel
theorem dX7_part_76 : decode cX7_part 76 = .ok (.iconst (-1), 1) := by decide +kernel
theorem dX7_part_77 : decode cX7_part 77 = .ok (.iastore, 1) := by decide +kernel
theorem dX7_part_78 : decode cX7_part 78 = .ok (.return_, 1) := by decide +kernel
theorem dX7_passQuarter_0 : decode cX7_passQuarter 0 = .ok (.iconst 0, 1) := by decide +kernel
theorem dX7_passQuarter_1 : decode cX7_passQuarter 1 = .ok (.istore_n 1, 1) := by decide +kernel
theorem dX7_passQuarter_2 : decode cX7_passQuarter 2 = .ok (.iload_n 1, 1) := by decide +kernel
theorem dX7_passQuarter_3 : decode cX7_passQuarter 3 = .ok (.aload_n 0, 1) := by decide +kernel
theorem dX7_passQuarter_4 : decode cX7_passQuarter 4 = .ok (.getfield 24, 3) := by decide +kernel
theorem dX7_passQuarter_7 : decode cX7_passQuarter 7 = .ok (.getfield 55, 3) := by decide +kernel
theorem dX7_passQuarter_10 : decode cX7_passQuarter 10 = .ok (.if_icmp .ge 54, 3) := by decide +kernel
theorem dX7_passQuarter_13 : decode cX7_passQuarter 13 = .ok (.aload_n 0, 1) := by decide +kernel
theorem dX7_passQuarter_14 : decode cX7_passQuarter 14 = .ok (.getfield 18, 3) := by decide +kernel
theorem dX7_passQuarter_17 : decode cX7_passQuarter 17 = .ok (.iload_n 1, 1) := by decide +kernel
theorem dX7_passQuarter_18 : decode cX7_passQuarter 18 = .ok (.iconst 0, 1) := by decide +kernel
theorem dX7_passQuarter_19 : decode cX7_passQuarter 19 = .ok (.iastore, 1) := by decide +kernel
theorem dX7_passQuarter_20 : decode cX7_passQuarter 20 = .ok (.iconst 0, 1) := by decide +kernel
theorem dX7_passQuarter_21 : decode cX7_passQuarter 21 = .ok (.istore_n 2, 1) := by decide +kernel
theorem dX7_passQuarter_22 : decode cX7_passQuarter 22 = .ok (.iload_n 2, 1) := by decide +kernel
theorem dX7_passQuarter_23 : decode cX7_passQuarter 23 = .ok (.aload_n 0, 1) := by decide +kernel
theorem dX7_passQuarter_24 : decode cX7_passQuarter 24 = .ok (.getfield 24, 3) := by decide +kernel
theorem dX7_passQuarter_27 : decode cX7_passQuarter 27 = .ok (.getfield 47, 3) := by decide +kernel
theorem dX7_passQuarter_30 : decode cX7_passQuarter 30 = .ok (.if_icmp .ge 28, 3) := by decide +kernel
theorem dX7_passQuarter_33 : decode cX7_passQuarter 33 = .ok (.aload_n 0, 1) := by decide +kernel
theorem dX7_passQuarter_34 : decode cX7_passQuarter 34 = .ok (.iload_n 1, 1) := by decide +kernel
theorem dX7_passQuarter_35 : decode cX7_passQuarter 35 = .ok (.iload_n 2, 1) := by decide +kernel
theorem dX7_passQuarter_36 : decode cX7_passQuarter 36 = .ok (.aload_n 0, 1) := by decide +kernel
theorem dX7_passQuarter_37 : decode cX7_passQuarter 37 = .ok (.getfield 24, 3) := by decide +kernel
theorem dX7_passQuarter_40 : decode cX7_passQuarter 40 = .ok (.aload_n 0, 1) := by decide +kernel
theorem dX7_passQuarter_41 : decode cX7_passQuarter 41 = .ok (.iload_n 1, 1) := by decide +kernel
theorem dX7_passQuarter_42 : decode cX7_passQuarter 42 = .ok (.iload_n 2, 1) := by decide +kernel
theorem dX7_passQuarter_43 : decode cX7_passQuarter 43 = .ok (.invokevirtual 52, 3) := by decide +kernel
theorem dX7_passQuarter_46 : decode cX7_passQuarter 46 = .ok (.invokevirtual 102, 3) := by decide +kernel
theorem dX7_passQuarter_49 : decode cX7_passQuarter 49 = .ok (.invokevirtual 95, 3) := by decide +kernel
theorem dX7_passQuarter_52 : decode cX7_passQuarter 52 = .ok (.iinc 2 1, 3) := by decide +kernel
theorem dX7_passQuarter_55 : decode cX7_passQuarter 55 = .ok (.goto (-33), 3) := by decide +kernel
theorem dX7_passQuarter_58 : decode cX7_passQuarter 58 = .ok (.iinc 1 1, 3) := by decide +kernel
theorem dX7_passQuarter_61 : decode cX7_passQuarter 61 = .ok (.goto (-59), 3) := by decide +kernel
theorem dX7_passQuarter_64 : decode cX7_passQuarter 64 = .ok (.iconst 0, 1) := by decide +kernel
theorem dX7_passQuarter_65 : decode cX7_passQuarter 65 = .ok (.istore_n 1, 1) := by decide +kernel
theorem dX7_passQuarter_66 : decode cX7_passQuarter 66 = .ok (.iconst 0, 1) := by decide +kernel
theorem dX7_passQuarter_67 : decode cX7_passQuarter 67 = .ok (.istore_n 2, 1) := by decide +kernel
theorem dX7_passQuarter_68 : decode cX7_passQuarter 68 = .ok (.iload_n 2, 1) := by decide +kernel
theorem dX7_passQuarter_69 : decode cX7_passQuarter 69 = .ok (.aload_n 0, 1) := by decide +kernel
theorem dX7_passQuarter_70 : decode cX7_passQuarter 70 = .ok (.getfield 24, 3) := by decide +kernel
theorem dX7_passQuarter_73 : decode cX7_passQuarter 73 = .ok (.getfield 47, 3) := by decide +kernel
theorem dX7_passQuarter_76 : decode cX7_passQuarter 76 = .ok (.if_icmp .ge 42, 3) := by decide +kernel
theorem dX7_passQuarter_79 : decode cX7_passQuarter 79 = .ok (.aload_n 0, 1) := by decide +kernel
theorem dX7_passQuarter_80 : decode cX7_passQuarter 80 = .ok (.iload_n 2, 1) := by decide +kernel
theorem dX7_passQuarter_81 : decode cX7_passQuarter 81 = .ok (.invokevirtual 66, 3) := by decide +kernel
theorem dX7_passQuarter_84 : decode cX7_passQuarter 84 = .ok (.ifCond .ne 28, 3) := by decide +kernel
theorem dX7_passQuarter_87 : decode cX7_passQuarter 87 = .ok (.aload_n 0, 1) := by decide +kernel
theorem dX7_passQuarter_88 : decode cX7_passQuarter 88 = .ok (.iload_n 2, 1) := by decide +kernel
theorem dX7_passQuarter_89 : decode cX7_passQuarter 89 = .ok (.invokevirtual 105, 3) := by decide +kernel
theorem dX7_passQuarter_92 : decode cX7_passQuarter 92 = .ok (.aload_n 0, 1) := by decide +kernel
theorem dX7_passQuarter_93 : decode cX7_passQuarter 93 = .ok (.getfield 15, 3) := by decide +kernel
theorem dX7_passQuarter_96 : decode cX7_passQuarter 96 = .ok (.iload_n 2, 1) := by decide +kernel
theorem dX7_passQuarter_97 : decode cX7_passQuarter 97 = .ok (.iaload, 1) := by decide +kernel
theorem dX7_passQuarter_98 : decode cX7_passQuarter 98 = .ok (.if_icmp .le 14, 3) := by decide +kernel
theorem dX7_passQuarter_101 : decode cX7_passQuarter 101 = .ok (.iload_n 1, 1) := by decide +kernel
theorem dX7_passQuarter_102 : decode cX7_passQuarter 102 = .ok (.iconst 1, 1) := by decide +kernel
theorem dX7_passQuarter_103 : decode cX7_passQuarter 103 = .ok (.iload_n 2, 1) := by decide +kernel
theorem dX7_passQuarter_104 : decode cX7_passQuarter 104 = .ok (.ishl, 1) := by decide +kernel
theorem dX7_passQuarter_105 : decode cX7_passQuarter 105 = .ok (.ior, 1) := by decide +kernel
theorem dX7_passQuarter_106 : decode cX7_passQuarter 106 = .ok (.istore_n 1, 1) := by decide +kernel
theorem dX7_passQuarter_107 : decode cX7_passQuarter 107 = .ok (.aload_n 0, 1) := by decide +kernel
theorem dX7_passQuarter_108 : decode cX7_passQuarter 108 = .ok (.iload_n 2, 1) := by decide +kernel
theorem dX7_passQuarter_109 : decode cX7_passQuarter 109 = .ok (.invokevirtual 108, 3) := by decide +kernel
theorem dX7_passQuarter_112 : decode cX7_passQuarter 112 = .ok (.iinc 2 1, 3) := by decide +kernel
theorem dX7_passQuarter_115 : decode cX7_passQuarter 115 = .ok (.goto (-47), 3) := by decide +kernel
theorem dX7_passQuarter_118 : decode cX7_passQuarter 118 = .ok (.aload_n 0, 1) := by decide +kernel
theorem dX7_passQuarter_119 : decode cX7_passQuarter 119 = .ok (.dup, 1) := by decide +kernel
theorem dX7_passQuarter_120 : decode cX7_passQuarter 120 = .ok (.getfield 28, 3) := by decide +kernel
theorem dX7_passQuarter_123 : decode cX7_passQuarter 123 = .ok (.iload_n 1, 1) := by decide +kernel
theorem dX7_passQuarter_124 : decode cX7_passQuarter 124 = .ok (.ior, 1) := by decide +kernel
theorem dX7_passQuarter_125 : decode cX7_passQuarter 125 = .ok (.putfield 28, 3) := by decide +kernel
theorem dX7_passQuarter_128 : decode cX7_passQuarter 128 = .ok (.aload_n 0, 1) := by decide +kernel
theorem dX7_passQuarter_129 : decode cX7_passQuarter 129 = .ok (.dup, 1) := by decide +kernel
theorem dX7_passQuarter_130 : decode cX7_passQuarter 130 = .ok (.getfield 32, 3) := by decide +kernel
theorem dX7_passQuarter_133 : decode cX7_passQuarter 133 = .ok (.iconst 1, 1) := by decide +kernel
theorem dX7_passQuarter_134 : decode cX7_passQuarter 134 = .ok (.iadd, 1) := by decide +kernel
theorem dX7_passQuarter_135 : decode cX7_passQuarter 135 = .ok (.putfield 32, 3) := by decide +kernel
theorem dX7_passQuarter_138 : decode cX7_passQuarter 138 = .ok (.iload_n 1, 1) := by decide +kernel
theorem dX7_passQuarter_139 : decode cX7_passQuarter 139 = .ok (.ireturn, 1) := by decide +kernel
theorem dX7_owedSourly_0 : decode cX7_owedSourly 0 = .ok (.iconst 0, 1) := by decide +kernel
theorem dX7_owedSourly_1 : decode cX7_owedSourly 1 = .ok (.istore_n 2, 1) := by decide +kernel
theorem dX7_owedSourly_2 : decode cX7_owedSourly 2 = .ok (.iconst 0, 1) := by decide +kernel
theorem dX7_owedSourly_3 : decode cX7_owedSourly 3 = .ok (.istore_n 3, 1) := by decide +kernel
theorem dX7_owedSourly_4 : decode cX7_owedSourly 4 = .ok (.iload_n 3, 1) := by decide +kernel
theorem dX7_owedSourly_5 : decode cX7_owedSourly 5 = .ok (.aload_n 0, 1) := by decide +kernel
theorem dX7_owedSourly_6 : decode cX7_owedSourly 6 = .ok (.getfield 24, 3) := by decide +kernel
theorem dX7_owedSourly_9 : decode cX7_owedSourly 9 = .ok (.getfield 55, 3) := by decide +kernel
theorem dX7_owedSourly_12 : decode cX7_owedSourly 12 = .ok (.if_icmp .ge 28, 3) := by decide +kernel
theorem dX7_owedSourly_15 : decode cX7_owedSourly 15 = .ok (.aload_n 0, 1) := by decide +kernel
theorem dX7_owedSourly_16 : decode cX7_owedSourly 16 = .ok (.iload_n 3, 1) := by decide +kernel
theorem dX7_owedSourly_17 : decode cX7_owedSourly 17 = .ok (.iload_n 1, 1) := by decide +kernel
theorem dX7_owedSourly_18 : decode cX7_owedSourly 18 = .ok (.invokevirtual 83, 3) := by decide +kernel
theorem dX7_owedSourly_21 : decode cX7_owedSourly 21 = .ok (.iconst 2, 1) := by decide +kernel
theorem dX7_owedSourly_22 : decode cX7_owedSourly 22 = .ok (.if_icmp .ne 12, 3) := by decide +kernel
theorem dX7_owedSourly_25 : decode cX7_owedSourly 25 = .ok (.iload_n 2, 1) := by decide +kernel
theorem dX7_owedSourly_26 : decode cX7_owedSourly 26 = .ok (.aload_n 0, 1) := by decide +kernel
theorem dX7_owedSourly_27 : decode cX7_owedSourly 27 = .ok (.iload_n 3, 1) := by decide +kernel
theorem dX7_owedSourly_28 : decode cX7_owedSourly 28 = .ok (.iload_n 1, 1) := by decide +kernel
theorem dX7_owedSourly_29 : decode cX7_owedSourly 29 = .ok (.invokevirtual 52, 3) := by decide +kernel
theorem dX7_owedSourly_32 : decode cX7_owedSourly 32 = .ok (.iadd, 1) := by decide +kernel
theorem dX7_owedSourly_33 : decode cX7_owedSourly 33 = .ok (.istore_n 2, 1) := by decide +kernel
theorem dX7_owedSourly_34 : decode cX7_owedSourly 34 = .ok (.iinc 3 1, 3) := by decide +kernel
theorem dX7_owedSourly_37 : decode cX7_owedSourly 37 = .ok (.goto (-33), 3) := by decide +kernel
theorem dX7_owedSourly_40 : decode cX7_owedSourly 40 = .ok (.iload_n 2, 1) := by decide +kernel
theorem dX7_owedSourly_41 : decode cX7_owedSourly 41 = .ok (.ireturn, 1) := by decide +kernel
theorem dX7_forgive_0 : decode cX7_forgive 0 = .ok (.iconst 0, 1) := by decide +kernel
theorem dX7_forgive_1 : decode cX7_forgive 1 = .ok (.istore_n 2, 1) := by decide +kernel
theorem dX7_forgive_2 : decode cX7_forgive 2 = .ok (.iload_n 2, 1) := by decide +kernel
theorem dX7_forgive_3 : decode cX7_forgive 3 = .ok (.aload_n 0, 1) := by decide +kernel
theorem dX7_forgive_4 : decode cX7_forgive 4 = .ok (.getfield 24, 3) := by decide +kernel
theorem dX7_forgive_7 : decode cX7_forgive 7 = .ok (.getfield 55, 3) := by decide +kernel
theorem dX7_forgive_10 : decode cX7_forgive 10 = .ok (.if_icmp .ge 16, 3) := by decide +kernel
theorem dX7_forgive_13 : decode cX7_forgive 13 = .ok (.aload_n 0, 1) := by decide +kernel
theorem dX7_forgive_14 : decode cX7_forgive 14 = .ok (.iload_n 2, 1) := by decide +kernel
theorem dX7_forgive_15 : decode cX7_forgive 15 = .ok (.iload_n 1, 1) := by decide +kernel
theorem dX7_forgive_16 : decode cX7_forgive 16 = .ok (.iconst 0, 1) := by decide +kernel
theorem dX7_forgive_17 : decode cX7_forgive 17 = .ok (.invokevirtual 95, 3) := by decide +kernel
theorem dX7_forgive_20 : decode cX7_forgive 20 = .ok (.iinc 2 1, 3) := by decide +kernel
theorem dX7_forgive_23 : decode cX7_forgive 23 = .ok (.goto (-21), 3) := by decide +kernel
theorem dX7_forgive_26 : decode cX7_forgive 26 = .ok (.return_, 1) := by decide +kernel
theorem dX7_mayReachLow_0 : decode cX7_mayReachLow 0 = .ok (.aload_n 0, 1) := by decide +kernel
theorem dX7_mayReachLow_1 : decode cX7_mayReachLow 1 = .ok (.iload_n 1, 1) := by decide +kernel
theorem dX7_mayReachLow_2 : decode cX7_mayReachLow 2 = .ok (.iload_n 2, 1) := by decide +kernel
theorem dX7_mayReachLow_3 : decode cX7_mayReachLow 3 = .ok (.invokevirtual 83, 3) := by decide +kernel
theorem dX7_mayReachLow_6 : decode cX7_mayReachLow 6 = .ok (.ifCond .ne 16, 3) := by decide +kernel
theorem dX7_mayReachLow_9 : decode cX7_mayReachLow 9 = .ok (.aload_n 0, 1) := by decide +kernel
theorem dX7_mayReachLow_10 : decode cX7_mayReachLow 10 = .ok (.iload_n 1, 1) := by decide +kernel
theorem dX7_mayReachLow_11 : decode cX7_mayReachLow 11 = .ok (.iload_n 2, 1) := by decide +kernel
theorem dX7_mayReachLow_12 : decode cX7_mayReachLow 12 = .ok (.invokevirtual 75, 3) := by decide +kernel
theorem dX7_mayReachLow_15 : decode cX7_mayReachLow 15 = .ok (.ifCond .ne 7, 3) := by decide +kernel
theorem dX7_mayReachLow_18 : decode cX7_mayReachLow 18 = .ok (.iconst 1, 1) := by decide +kernel
theorem dX7_mayReachLow_19 : decode cX7_mayReachLow 19 = .ok (.goto 4, 3) := by decide +kernel
theorem dX7_mayReachLow_22 : decode cX7_mayReachLow 22 = .ok (.iconst 0, 1) := by decide +kernel
theorem dX7_mayReachLow_23 : decode cX7_mayReachLow 23 = .ok (.istore_n 3, 1) := by decide +kernel
theorem dX7_mayReachLow_24 : decode cX7_mayReachLow 24 = .ok (.iload_n 3, 1) := by decide +kernel
theorem dX7_mayReachLow_25 : decode cX7_mayReachLow 25 = .ok (.ifCond .eq 32, 3) := by decide +kernel
theorem dX7_mayReachLow_28 : decode cX7_mayReachLow 28 = .ok (.aload_n 0, 1) := by decide +kernel
theorem dX7_mayReachLow_29 : decode cX7_mayReachLow 29 = .ok (.iload_n 1, 1) := by decide +kernel
theorem dX7_mayReachLow_30 : decode cX7_mayReachLow 30 = .ok (.iload_n 2, 1) := by decide +kernel
theorem dX7_mayReachLow_31 : decode cX7_mayReachLow 31 = .ok (.aload_n 0, 1) := by decide +kernel
theorem dX7_mayReachLow_32 : decode cX7_mayReachLow 32 = .ok (.getfield 24, 3) := by decide +kernel
theorem dX7_mayReachLow_35 : decode cX7_mayReachLow 35 = .ok (.getfield 69, 3) := by decide +kernel
theorem dX7_mayReachLow_38 : decode cX7_mayReachLow 38 = .ok (.iload_n 2, 1) := by decide +kernel
theorem dX7_mayReachLow_39 : decode cX7_mayReachLow 39 = .ok (.iaload, 1) := by decide +kernel
theorem dX7_mayReachLow_40 : decode cX7_mayReachLow 40 = .ok (.aload_n 0, 1) := by decide +kernel
theorem dX7_mayReachLow_41 : decode cX7_mayReachLow 41 = .ok (.iload_n 1, 1) := by decide +kernel
theorem dX7_mayReachLow_42 : decode cX7_mayReachLow 42 = .ok (.iload_n 2, 1) := by decide +kernel
theorem dX7_mayReachLow_43 : decode cX7_mayReachLow 43 = .ok (.invokevirtual 52, 3) := by decide +kernel
theorem dX7_mayReachLow_46 : decode cX7_mayReachLow 46 = .ok (.isub, 1) := by decide +kernel
theorem dX7_mayReachLow_47 : decode cX7_mayReachLow 47 = .ok (.invokevirtual 112, 3) := by decide +kernel
theorem dX7_mayReachLow_50 : decode cX7_mayReachLow 50 = .ok (.ifCond .eq 7, 3) := by decide +kernel
theorem dX7_mayReachLow_53 : decode cX7_mayReachLow 53 = .ok (.iconst 1, 1) := by decide +kernel
theorem dX7_mayReachLow_54 : decode cX7_mayReachLow 54 = .ok (.goto 4, 3) := by decide +kernel
theorem dX7_mayReachLow_57 : decode cX7_mayReachLow 57 = .ok (.iconst 0, 1) := by decide +kernel
theorem dX7_mayReachLow_58 : decode cX7_mayReachLow 58 = .ok (.ireturn, 1) := by decide +kernel
theorem dX7_coinsFor_0 : decode cX7_coinsFor 0 = .ok (.iconst 0, 1) := by decide +kernel
theorem dX7_coinsFor_1 : decode cX7_coinsFor 1 = .ok (.istore_n 3, 1) := by decide +kernel
theorem dX7_coinsFor_2 : decode cX7_coinsFor 2 = .ok (.iconst 0, 1) := by decide +kernel
theorem dX7_coinsFor_3 : decode cX7_coinsFor 3 = .ok (.istore 4, 2) := by decide +kernel
theorem dX7_coinsFor_5 : decode cX7_coinsFor 5 = .ok (.iload 4, 2) := by decide +kernel
theorem dX7_coinsFor_7 : decode cX7_coinsFor 7 = .ok (.aload_n 0, 1) := by decide +kernel
theorem dX7_coinsFor_8 : decode cX7_coinsFor 8 = .ok (.getfield 24, 3) := by decide +kernel
theorem dX7_coinsFor_11 : decode cX7_coinsFor 11 = .ok (.getfield 47, 3) := by decide +kernel
theorem dX7_coinsFor_14 : decode cX7_coinsFor 14 = .ok (.if_icmp .ge 40, 3) := by decide +kernel
theorem dX7_coinsFor_17 : decode cX7_coinsFor 17 = .ok (.iload_n 2, 1) := by decide +kernel
theorem dX7_coinsFor_18 : decode cX7_coinsFor 18 = .ok (.iload 4, 2) := by decide +kernel
theorem dX7_coinsFor_20 : decode cX7_coinsFor 20 = .ok (.ishr, 1) := by decide +kernel
theorem dX7_coinsFor_21 : decode cX7_coinsFor 21 = .ok (.iconst 1, 1) := by decide +kernel
theorem dX7_coinsFor_22 : decode cX7_coinsFor 22 = .ok (.iand, 1) := by decide +kernel
theorem dX7_coinsFor_23 : decode cX7_coinsFor 23 = .ok (.iconst 1, 1) := by decide +kernel
theorem dX7_coinsFor_24 : decode cX7_coinsFor 24 = .ok (.if_icmp .ne 24, 3) := by decide +kernel
theorem dX7_coinsFor_27 : decode cX7_coinsFor 27 = .ok (.iload_n 3, 1) := by decide +kernel
theorem dX7_coinsFor_28 : decode cX7_coinsFor 28 = .ok (.aload_n 0, 1) := by decide +kernel
theorem dX7_coinsFor_29 : decode cX7_coinsFor 29 = .ok (.getfield 24, 3) := by decide +kernel
theorem dX7_coinsFor_32 : decode cX7_coinsFor 32 = .ok (.getfield 69, 3) := by decide +kernel
theorem dX7_coinsFor_35 : decode cX7_coinsFor 35 = .ok (.iload 4, 2) := by decide +kernel
theorem dX7_coinsFor_37 : decode cX7_coinsFor 37 = .ok (.iaload, 1) := by decide +kernel
theorem dX7_coinsFor_38 : decode cX7_coinsFor 38 = .ok (.aload_n 0, 1) := by decide +kernel
theorem dX7_coinsFor_39 : decode cX7_coinsFor 39 = .ok (.iload_n 1, 1) := by decide +kernel
theorem dX7_coinsFor_40 : decode cX7_coinsFor 40 = .ok (.iload 4, 2) := by decide +kernel
theorem dX7_coinsFor_42 : decode cX7_coinsFor 42 = .ok (.invokevirtual 52, 3) := by decide +kernel
theorem dX7_coinsFor_45 : decode cX7_coinsFor 45 = .ok (.isub, 1) := by decide +kernel
theorem dX7_coinsFor_46 : decode cX7_coinsFor 46 = .ok (.iadd, 1) := by decide +kernel
theorem dX7_coinsFor_47 : decode cX7_coinsFor 47 = .ok (.istore_n 3, 1) := by decide +kernel
theorem dX7_coinsFor_48 : decode cX7_coinsFor 48 = .ok (.iinc 4 1, 3) := by decide +kernel
theorem dX7_coinsFor_51 : decode cX7_coinsFor 51 = .ok (.goto (-46), 3) := by decide +kernel
theorem dX7_coinsFor_54 : decode cX7_coinsFor 54 = .ok (.iload_n 3, 1) := by decide +kernel
theorem dX7_coinsFor_55 : decode cX7_coinsFor 55 = .ok (.ireturn, 1) := by decide +kernel
theorem dX7_worthOfSet_0 : decode cX7_worthOfSet 0 = .ok (.iconst 0, 1) := by decide +kernel
theorem dX7_worthOfSet_1 : decode cX7_worthOfSet 1 = .ok (.istore_n 2, 1) := by decide +kernel
theorem dX7_worthOfSet_2 : decode cX7_worthOfSet 2 = .ok (.iconst 0, 1) := by decide +kernel
theorem dX7_worthOfSet_3 : decode cX7_worthOfSet 3 = .ok (.istore_n 3, 1) := by decide +kernel
theorem dX7_worthOfSet_4 : decode cX7_worthOfSet 4 = .ok (.iload_n 3, 1) := by decide +kernel
theorem dX7_worthOfSet_5 : decode cX7_worthOfSet 5 = .ok (.aload_n 0, 1) := by decide +kernel
theorem dX7_worthOfSet_6 : decode cX7_worthOfSet 6 = .ok (.getfield 24, 3) := by decide +kernel
theorem dX7_worthOfSet_9 : decode cX7_worthOfSet 9 = .ok (.getfield 47, 3) := by decide +kernel
theorem dX7_worthOfSet_12 : decode cX7_worthOfSet 12 = .ok (.if_icmp .ge 30, 3) := by decide +kernel
theorem dX7_worthOfSet_15 : decode cX7_worthOfSet 15 = .ok (.iload_n 1, 1) := by decide +kernel
theorem dX7_worthOfSet_16 : decode cX7_worthOfSet 16 = .ok (.iload_n 3, 1) := by decide +kernel
theorem dX7_worthOfSet_17 : decode cX7_worthOfSet 17 = .ok (.ishr, 1) := by decide +kernel
theorem dX7_worthOfSet_18 : decode cX7_worthOfSet 18 = .ok (.iconst 1, 1) := by decide +kernel
theorem dX7_worthOfSet_19 : decode cX7_worthOfSet 19 = .ok (.iand, 1) := by decide +kernel
theorem dX7_worthOfSet_20 : decode cX7_worthOfSet 20 = .ok (.iconst 1, 1) := by decide +kernel
theorem dX7_worthOfSet_21 : decode cX7_worthOfSet 21 = .ok (.if_icmp .ne 15, 3) := by decide +kernel
theorem dX7_worthOfSet_24 : decode cX7_worthOfSet 24 = .ok (.iload_n 2, 1) := by decide +kernel
theorem dX7_worthOfSet_25 : decode cX7_worthOfSet 25 = .ok (.aload_n 0, 1) := by decide +kernel
theorem dX7_worthOfSet_26 : decode cX7_worthOfSet 26 = .ok (.getfield 24, 3) := by decide +kernel
theorem dX7_worthOfSet_29 : decode cX7_worthOfSet 29 = .ok (.getfield 86, 3) := by decide +kernel
theorem dX7_worthOfSet_32 : decode cX7_worthOfSet 32 = .ok (.iload_n 3, 1) := by decide +kernel
theorem dX7_worthOfSet_33 : decode cX7_worthOfSet 33 = .ok (.iaload, 1) := by decide +kernel
theorem dX7_worthOfSet_34 : decode cX7_worthOfSet 34 = .ok (.iadd, 1) := by decide +kernel
theorem dX7_worthOfSet_35 : decode cX7_worthOfSet 35 = .ok (.istore_n 2, 1) := by decide +kernel
theorem dX7_worthOfSet_36 : decode cX7_worthOfSet 36 = .ok (.iinc 3 1, 3) := by decide +kernel
theorem dX7_worthOfSet_39 : decode cX7_worthOfSet 39 = .ok (.goto (-35), 3) := by decide +kernel
theorem dX7_worthOfSet_42 : decode cX7_worthOfSet 42 = .ok (.iload_n 2, 1) := by decide +kernel
theorem dX7_worthOfSet_43 : decode cX7_worthOfSet 43 = .ok (.ireturn, 1) := by decide +kernel
theorem dX7_cheapestSet_0 : decode cX7_cheapestSet 0 = .ok (.iconst 0, 1) := by decide +kernel
theorem dX7_cheapestSet_1 : decode cX7_cheapestSet 1 = .ok (.istore_n 3, 1) := by decide +kernel
theorem dX7_cheapestSet_2 : decode cX7_cheapestSet 2 = .ok (.iconst 0, 1) := by decide +kernel
theorem dX7_cheapestSet_3 : decode cX7_cheapestSet 3 = .ok (.istore 4, 2) := by decide +kernel
theorem dX7_cheapestSet_5 : decode cX7_cheapestSet 5 = .ok (.iload 4, 2) := by decide +kernel
theorem dX7_cheapestSet_7 : decode cX7_cheapestSet 7 = .ok (.aload_n 0, 1) := by decide +kernel
theorem dX7_cheapestSet_8 : decode cX7_cheapestSet 8 = .ok (.getfield 24, 3) := by decide +kernel
theorem dX7_cheapestSet_11 : decode cX7_cheapestSet 11 = .ok (.getfield 47, 3) := by decide +kernel
theorem dX7_cheapestSet_14 : decode cX7_cheapestSet 14 = .ok (.if_icmp .ge 26, 3) := by decide +kernel
theorem dX7_cheapestSet_17 : decode cX7_cheapestSet 17 = .ok (.aload_n 0, 1) := by decide +kernel
theorem dX7_cheapestSet_18 : decode cX7_cheapestSet 18 = .ok (.iload_n 1, 1) := by decide +kernel
theorem dX7_cheapestSet_19 : decode cX7_cheapestSet 19 = .ok (.iload 4, 2) := by decide +kernel
theorem dX7_cheapestSet_21 : decode cX7_cheapestSet 21 = .ok (.invokevirtual 116, 3) := by decide +kernel
theorem dX7_cheapestSet_24 : decode cX7_cheapestSet 24 = .ok (.ifCond .eq 10, 3) := by decide +kernel
theorem dX7_cheapestSet_27 : decode cX7_cheapestSet 27 = .ok (.iload_n 3, 1) := by decide +kernel
theorem dX7_cheapestSet_28 : decode cX7_cheapestSet 28 = .ok (.iconst 1, 1) := by decide +kernel
theorem dX7_cheapestSet_29 : decode cX7_cheapestSet 29 = .ok (.iload 4, 2) := by decide +kernel
theorem dX7_cheapestSet_31 : decode cX7_cheapestSet 31 = .ok (.ishl, 1) := by decide +kernel
theorem dX7_cheapestSet_32 : decode cX7_cheapestSet 32 = .ok (.ior, 1) := by decide +kernel
theorem dX7_cheapestSet_33 : decode cX7_cheapestSet 33 = .ok (.istore_n 3, 1) := by decide +kernel
theorem dX7_cheapestSet_34 : decode cX7_cheapestSet 34 = .ok (.iinc 4 1, 3) := by decide +kernel
theorem dX7_cheapestSet_37 : decode cX7_cheapestSet 37 = .ok (.goto (-32), 3) := by decide +kernel
theorem dX7_cheapestSet_40 : decode cX7_cheapestSet 40 = .ok (.aload_n 0, 1) := by decide +kernel
theorem dX7_cheapestSet_41 : decode cX7_cheapestSet 41 = .ok (.iload_n 1, 1) := by decide +kernel
theorem dX7_cheapestSet_42 : decode cX7_cheapestSet 42 = .ok (.invokevirtual 119, 3) := by decide +kernel
theorem dX7_cheapestSet_45 : decode cX7_cheapestSet 45 = .ok (.istore 4, 2) := by decide +kernel
theorem dX7_cheapestSet_47 : decode cX7_cheapestSet 47 = .ok (.iconst (-1), 1) := by decide +kernel
theorem dX7_cheapestSet_48 : decode cX7_cheapestSet 48 = .ok (.istore 5, 2) := by decide +kernel
theorem dX7_cheapestSet_50 : decode cX7_cheapestSet 50 = .ok (.ldc 122, 2) := by decide +kernel
theorem dX7_cheapestSet_52 : decode cX7_cheapestSet 52 = .ok (.istore 6, 2) := by decide +kernel
theorem dX7_cheapestSet_54 : decode cX7_cheapestSet 54 = .ok (.iconst 0, 1) := by decide +kernel
theorem dX7_cheapestSet_55 : decode cX7_cheapestSet 55 = .ok (.istore 7, 2) := by decide +kernel
theorem dX7_cheapestSet_57 : decode cX7_cheapestSet 57 = .ok (.iload 7, 2) := by decide +kernel
theorem dX7_cheapestSet_59 : decode cX7_cheapestSet 59 = .ok (.bipush 16, 2) := by decide +kernel
theorem dX7_cheapestSet_61 : decode cX7_cheapestSet 61 = .ok (.if_icmp .ge 68, 3) := by decide +kernel
theorem dX7_cheapestSet_64 : decode cX7_cheapestSet 64 = .ok (.iload 7, 2) := by decide +kernel
theorem dX7_cheapestSet_66 : decode cX7_cheapestSet 66 = .ok (.iload_n 3, 1) := by decide +kernel
theorem dX7_cheapestSet_67 : decode cX7_cheapestSet 67 = .ok (.iconst (-1), 1) := by decide +kernel
theorem dX7_cheapestSet_68 : decode cX7_cheapestSet 68 = .ok (.ixor, 1) := by decide +kernel
theorem dX7_cheapestSet_69 : decode cX7_cheapestSet 69 = .ok (.iand, 1) := by decide +kernel
theorem dX7_cheapestSet_70 : decode cX7_cheapestSet 70 = .ok (.ifCond .ne 20, 3) := by decide +kernel
theorem dX7_cheapestSet_73 : decode cX7_cheapestSet 73 = .ok (.iload 4, 2) := by decide +kernel
theorem dX7_cheapestSet_75 : decode cX7_cheapestSet 75 = .ok (.aload_n 0, 1) := by decide +kernel
theorem dX7_cheapestSet_76 : decode cX7_cheapestSet 76 = .ok (.iload 7, 2) := by decide +kernel
theorem dX7_cheapestSet_78 : decode cX7_cheapestSet 78 = .ok (.invokevirtual 123, 3) := by decide +kernel
theorem dX7_cheapestSet_81 : decode cX7_cheapestSet 81 = .ok (.iadd, 1) := by decide +kernel
theorem dX7_cheapestSet_82 : decode cX7_cheapestSet 82 = .ok (.iload_n 2, 1) := by decide +kernel
theorem dX7_cheapestSet_83 : decode cX7_cheapestSet 83 = .ok (.if_icmp .lt 7, 3) := by decide +kernel
theorem dX7_cheapestSet_86 : decode cX7_cheapestSet 86 = .ok (.iconst 1, 1) := by decide +kernel
theorem dX7_cheapestSet_87 : decode cX7_cheapestSet 87 = .ok (.goto 4, 3) := by decide +kernel
theorem dX7_cheapestSet_90 : decode cX7_cheapestSet 90 = .ok (.iconst 0, 1) := by decide +kernel
theorem dX7_cheapestSet_91 : decode cX7_cheapestSet 91 = .ok (.istore 8, 2) := by decide +kernel
theorem dX7_cheapestSet_93 : decode cX7_cheapestSet 93 = .ok (.iload 8, 2) := by decide +kernel
theorem dX7_cheapestSet_95 : decode cX7_cheapestSet 95 = .ok (.ifCond .eq 28, 3) := by decide +kernel
theorem dX7_cheapestSet_98 : decode cX7_cheapestSet 98 = .ok (.aload_n 0, 1) := by decide +kernel
theorem dX7_cheapestSet_99 : decode cX7_cheapestSet 99 = .ok (.iload_n 1, 1) := by decide +kernel
theorem dX7_cheapestSet_100 : decode cX7_cheapestSet 100 = .ok (.iload 7, 2) := by decide +kernel
theorem dX7_cheapestSet_102 : decode cX7_cheapestSet 102 = .ok (.invokevirtual 126, 3) := by decide +kernel
theorem dX7_cheapestSet_105 : decode cX7_cheapestSet 105 = .ok (.iload 6, 2) := by decide +kernel
theorem dX7_cheapestSet_107 : decode cX7_cheapestSet 107 = .ok (.if_icmp .ge 16, 3) := by decide +kernel
theorem dX7_cheapestSet_110 : decode cX7_cheapestSet 110 = .ok (.iload 7, 2) := by decide +kernel
theorem dX7_cheapestSet_112 : decode cX7_cheapestSet 112 = .ok (.istore 5, 2) := by decide +kernel
theorem dX7_cheapestSet_114 : decode cX7_cheapestSet 114 = .ok (.aload_n 0, 1) := by decide +kernel
theorem dX7_cheapestSet_115 : decode cX7_cheapestSet 115 = .ok (.iload_n 1, 1) := by decide +kernel
theorem dX7_cheapestSet_116 : decode cX7_cheapestSet 116 = .ok (.iload 7, 2) := by decide +kernel
theorem dX7_cheapestSet_118 : decode cX7_cheapestSet 118 = .ok (.invokevirtual 126, 3) := by decide +kernel
theorem dX7_cheapestSet_121 : decode cX7_cheapestSet 121 = .ok (.istore 6, 2) := by decide +kernel
theorem dX7_cheapestSet_123 : decode cX7_cheapestSet 123 = .ok (.iinc 7 1, 3) := by decide +kernel
theorem dX7_cheapestSet_126 : decode cX7_cheapestSet 126 = .ok (.goto (-69), 3) := by decide +kernel
theorem dX7_cheapestSet_129 : decode cX7_cheapestSet 129 = .ok (.iload 5, 2) := by decide +kernel
theorem dX7_cheapestSet_131 : decode cX7_cheapestSet 131 = .ok (.ireturn, 1) := by decide +kernel
