theorem dX7_standingJoined_29 : decode cX7_standingJoined 29 = .ok (.iload 4, 2) := by decide +kernel
theorem dX7_standingJoined_31 : decode cX7_standingJoined 31 = .ok (.invokevirtual 75, 3) := by decide +kernel
theorem dX7_standingJoined_34 : decode cX7_standingJoined 34 = .ok (.ifCond .eq 7, 3) := by decide +kernel
theorem dX7_standingJoined_37 : decode cX7_standingJoined 37 = .ok (.iconst 1, 1) := by decide +kernel
theorem dX7_standingJoined_38 : decode cX7_standingJoined 38 = .ok (.goto 4, 3) := by decide +kernel
theorem dX7_standingJoined_41 : decode cX7_standingJoined 41 = .ok (.iconst 0, 1) := by decide +kernel
theorem dX7_standingJoined_42 : decode cX7_standingJoined 42 = .ok (.istore 5, 2) := by decide +kernel
theorem dX7_standingJoined_44 : decode cX7_standingJoined 44 = .ok (.sipush 9999, 3) := by decide +kernel
theorem dX7_standingJoined_47 : decode cX7_standingJoined 47 = .ok (.aload_n 0, 1) := by decide +kernel
theorem dX7_standingJoined_48 : decode cX7_standingJoined 48 = .ok (.iload_n 1, 1) := by decide +kernel
theorem dX7_standingJoined_49 : decode cX7_standingJoined 49 = .ok (.iload 4, 2) := by decide +kernel
theorem dX7_standingJoined_51 : decode cX7_standingJoined 51 = .ok (.invokevirtual 52, 3) := by decide +kernel
theorem dX7_standingJoined_54 : decode cX7_standingJoined 54 = .ok (.aload_n 0, 1) := by decide +kernel
theorem dX7_standingJoined_55 : decode cX7_standingJoined 55 = .ok (.iload_n 2, 1) := by decide +kernel
theorem dX7_standingJoined_56 : decode cX7_standingJoined 56 = .ok (.iload 4, 2) := by decide +kernel
theorem dX7_standingJoined_58 : decode cX7_standingJoined 58 = .ok (.invokevirtual 52, 3) := by decide +kernel
theorem dX7_standingJoined_61 : decode cX7_standingJoined 61 = .ok (.iadd, 1) := by decide +kernel
theorem dX7_standingJoined_62 : decode cX7_standingJoined 62 = .ok (.invokestatic 41, 3) := by decide +kernel
theorem dX7_standingJoined_65 : decode cX7_standingJoined 65 = .ok (.istore 6, 2) := by decide +kernel
theorem dX7_standingJoined_67 : decode cX7_standingJoined 67 = .ok (.iload_n 3, 1) := by decide +kernel
theorem dX7_standingJoined_68 : decode cX7_standingJoined 68 = .ok (.aload_n 0, 1) := by decide +kernel
theorem dX7_standingJoined_69 : decode cX7_standingJoined 69 = .ok (.iload 4, 2) := by decide +kernel
theorem dX7_standingJoined_71 : decode cX7_standingJoined 71 = .ok (.aload_n 0, 1) := by decide +kernel
theorem dX7_standingJoined_72 : decode cX7_standingJoined 72 = .ok (.iload 4, 2) := by decide +kernel
theorem dX7_standingJoined_74 : decode cX7_standingJoined 74 = .ok (.iload 6, 2) := by decide +kernel
theorem dX7_standingJoined_76 : decode cX7_standingJoined 76 = .ok (.iload 5, 2) := by decide +kernel
theorem dX7_standingJoined_78 : decode cX7_standingJoined 78 = .ok (.invokevirtual 79, 3) := by decide +kernel
theorem dX7_standingJoined_81 : decode cX7_standingJoined 81 = .ok (.invokevirtual 89, 3) := by decide +kernel
theorem dX7_standingJoined_84 : decode cX7_standingJoined 84 = .ok (.iadd, 1) := by decide +kernel
theorem dX7_standingJoined_85 : decode cX7_standingJoined 85 = .ok (.istore_n 3, 1) := by decide +kernel
theorem dX7_standingJoined_86 : decode cX7_standingJoined 86 = .ok (.iinc 4 1, 3) := by decide +kernel
theorem dX7_standingJoined_89 : decode cX7_standingJoined 89 = .ok (.goto (-84), 3) := by decide +kernel
theorem dX7_standingJoined_92 : decode cX7_standingJoined 92 = .ok (.iload_n 3, 1) := by decide +kernel
theorem dX7_standingJoined_93 : decode cX7_standingJoined 93 = .ok (.ireturn, 1) := by decide +kernel
theorem dX7_mayBorrow_0 : decode cX7_mayBorrow 0 = .ok (.aload_n 0, 1) := by decide +kernel
theorem dX7_mayBorrow_1 : decode cX7_mayBorrow 1 = .ok (.iload_n 1, 1) := by decide +kernel
theorem dX7_mayBorrow_2 : decode cX7_mayBorrow 2 = .ok (.invokevirtual 92, 3) := by decide +kernel
theorem dX7_mayBorrow_5 : decode cX7_mayBorrow 5 = .ok (.ifCond .ne 25, 3) := by decide +kernel
theorem dX7_mayBorrow_8 : decode cX7_mayBorrow 8 = .ok (.aload_n 0, 1) := by decide +kernel
theorem dX7_mayBorrow_9 : decode cX7_mayBorrow 9 = .ok (.iload_n 2, 1) := by decide +kernel
theorem dX7_mayBorrow_10 : decode cX7_mayBorrow 10 = .ok (.invokevirtual 66, 3) := by decide +kernel
theorem dX7_mayBorrow_13 : decode cX7_mayBorrow 13 = .ok (.ifCond .ne 17, 3) := by decide +kernel
theorem dX7_mayBorrow_16 : decode cX7_mayBorrow 16 = .ok (.aload_n 0, 1) := by decide +kernel
theorem dX7_mayBorrow_17 : decode cX7_mayBorrow 17 = .ok (.getfield 15, 3) := by decide +kernel
theorem dX7_mayBorrow_20 : decode cX7_mayBorrow 20 = .ok (.iload_n 2, 1) := by decide +kernel
theorem dX7_mayBorrow_21 : decode cX7_mayBorrow 21 = .ok (.iaload, 1) := by decide +kernel
theorem dX7_mayBorrow_22 : decode cX7_mayBorrow 22 = .ok (.iload_n 3, 1) := by decide +kernel
theorem dX7_mayBorrow_23 : decode cX7_mayBorrow 23 = .ok (.if_icmp .lt 7, 3) := by decide +kernel
theorem dX7_mayBorrow_26 : decode cX7_mayBorrow 26 = .ok (.iconst 1, 1) := by decide +kernel
theorem dX7_mayBorrow_27 : decode cX7_mayBorrow 27 = .ok (.goto 4, 3) := by decide +kernel
theorem dX7_mayBorrow_30 : decode cX7_mayBorrow 30 = .ok (.iconst 0, 1) := by decide +kernel
theorem dX7_mayBorrow_31 : decode cX7_mayBorrow 31 = .ok (.ireturn, 1) := by decide +kernel
theorem dX7_lend_0 : decode cX7_lend 0 = .ok (.aload_n 0, 1) := by decide +kernel
theorem dX7_lend_1 : decode cX7_lend 1 = .ok (.iload_n 1, 1) := by decide +kernel
theorem dX7_lend_2 : decode cX7_lend 2 = .ok (.iload_n 2, 1) := by decide +kernel
theorem dX7_lend_3 : decode cX7_lend 3 = .ok (.aload_n 0, 1) := by decide +kernel
theorem dX7_lend_4 : decode cX7_lend 4 = .ok (.iload_n 1, 1) := by decide +kernel
theorem dX7_lend_5 : decode cX7_lend 5 = .ok (.iload_n 2, 1) := by decide +kernel
theorem dX7_lend_6 : decode cX7_lend 6 = .ok (.invokevirtual 52, 3) := by decide +kernel
theorem dX7_lend_9 : decode cX7_lend 9 = .ok (.iload_n 3, 1) := by decide +kernel
theorem dX7_lend_10 : decode cX7_lend 10 = .ok (.iadd, 1) := by decide +kernel
theorem dX7_lend_11 : decode cX7_lend 11 = .ok (.invokevirtual 95, 3) := by decide +kernel
theorem dX7_lend_14 : decode cX7_lend 14 = .ok (.aload_n 0, 1) := by decide +kernel
theorem dX7_lend_15 : decode cX7_lend 15 = .ok (.getfield 15, 3) := by decide +kernel
theorem dX7_lend_18 : decode cX7_lend 18 = .ok (.iload_n 2, 1) := by decide +kernel
theorem dX7_lend_19 : decode cX7_lend 19 = .ok (.dup2, 1) := by decide +kernel
theorem dX7_lend_20 : decode cX7_lend 20 = .ok (.iaload, 1) := by decide +kernel
theorem dX7_lend_21 : decode cX7_lend 21 = .ok (.iload_n 3, 1) := by decide +kernel
theorem dX7_lend_22 : decode cX7_lend 22 = .ok (.isub, 1) := by decide +kernel
theorem dX7_lend_23 : decode cX7_lend 23 = .ok (.iastore, 1) := by decide +kernel
theorem dX7_lend_24 : decode cX7_lend 24 = .ok (.return_, 1) := by decide +kernel
theorem dX7_settle_0 : decode cX7_settle 0 = .ok (.aload_n 0, 1) := by decide +kernel
theorem dX7_settle_1 : decode cX7_settle 1 = .ok (.iload_n 1, 1) := by decide +kernel
theorem dX7_settle_2 : decode cX7_settle 2 = .ok (.iload_n 2, 1) := by decide +kernel
theorem dX7_settle_3 : decode cX7_settle 3 = .ok (.invokevirtual 52, 3) := by decide +kernel
theorem dX7_settle_6 : decode cX7_settle 6 = .ok (.istore 4, 2) := by decide +kernel
theorem dX7_settle_8 : decode cX7_settle 8 = .ok (.iload_n 3, 1) := by decide +kernel
theorem dX7_settle_9 : decode cX7_settle 9 = .ok (.bipush 100, 2) := by decide +kernel
theorem dX7_settle_11 : decode cX7_settle 11 = .ok (.imul, 1) := by decide +kernel
theorem dX7_settle_12 : decode cX7_settle 12 = .ok (.aload_n 0, 1) := by decide +kernel
theorem dX7_settle_13 : decode cX7_settle 13 = .ok (.getfield 24, 3) := by decide +kernel
theorem dX7_settle_16 : decode cX7_settle 16 = .ok (.getfield 99, 3) := by decide +kernel
theorem dX7_settle_19 : decode cX7_settle 19 = .ok (.iload 4, 2) := by decide +kernel
theorem dX7_settle_21 : decode cX7_settle 21 = .ok (.imul, 1) := by decide +kernel
theorem dX7_settle_22 : decode cX7_settle 22 = .ok (.if_icmp .le 15, 3) := by decide +kernel
theorem dX7_settle_25 : decode cX7_settle 25 = .ok (.aload_n 0, 1) := by decide +kernel
theorem dX7_settle_26 : decode cX7_settle 26 = .ok (.getfield 18, 3) := by decide +kernel
theorem dX7_settle_29 : decode cX7_settle 29 = .ok (.iload_n 1, 1) := by decide +kernel
theorem dX7_settle_30 : decode cX7_settle 30 = .ok (.dup2, 1) := by decide +kernel
theorem dX7_settle_31 : decode cX7_settle 31 = .ok (.iaload, 1) := by decide +kernel
theorem dX7_settle_32 : decode cX7_settle 32 = .ok (.iconst 1, 1) := by decide +kernel
theorem dX7_settle_33 : decode cX7_settle 33 = .ok (.iload_n 2, 1) := by decide +kernel
theorem dX7_settle_34 : decode cX7_settle 34 = .ok (.ishl, 1) := by decide +kernel
theorem dX7_settle_35 : decode cX7_settle 35 = .ok (.ior, 1) := by decide +kernel
theorem dX7_settle_36 : decode cX7_settle 36 = .ok (.iastore, 1) := by decide +kernel
theorem dX7_settle_37 : decode cX7_settle 37 = .ok (.aload_n 0, 1) := by decide +kernel
theorem dX7_settle_38 : decode cX7_settle 38 = .ok (.iload_n 1, 1) := by decide +kernel
theorem dX7_settle_39 : decode cX7_settle 39 = .ok (.iload_n 2, 1) := by decide +kernel
theorem dX7_settle_40 : decode cX7_settle 40 = .ok (.iload 4, 2) := by decide +kernel
theorem dX7_settle_42 : decode cX7_settle 42 = .ok (.iload_n 3, 1) := by decide +kernel
theorem dX7_settle_43 : decode cX7_settle 43 = .ok (.isub, 1) := by decide +kernel
theorem dX7_settle_44 : decode cX7_settle 44 = .ok (.invokevirtual 95, 3) := by decide +kernel
theorem dX7_settle_47 : decode cX7_settle 47 = .ok (.aload_n 0, 1) := by decide +kernel
theorem dX7_settle_48 : decode cX7_settle 48 = .ok (.getfield 15, 3) := by decide +kernel
theorem dX7_settle_51 : decode cX7_settle 51 = .ok (.iload_n 2, 1) := by decide +kernel
theorem dX7_settle_52 : decode cX7_settle 52 = .ok (.sipush 9999, 3) := by decide +kernel
theorem dX7_settle_55 : decode cX7_settle 55 = .ok (.aload_n 0, 1) := by decide +kernel
theorem dX7_settle_56 : decode cX7_settle 56 = .ok (.getfield 15, 3) := by decide +kernel
theorem dX7_settle_59 : decode cX7_settle 59 = .ok (.iload_n 2, 1) := by decide +kernel
theorem dX7_settle_60 : decode cX7_settle 60 = .ok (.iaload, 1) := by decide +kernel
theorem dX7_settle_61 : decode cX7_settle 61 = .ok (.iload_n 3, 1) := by decide +kernel
theorem dX7_settle_62 : decode cX7_settle 62 = .ok (.iadd, 1) := by decide +kernel
theorem dX7_settle_63 : decode cX7_settle 63 = .ok (.invokestatic 41, 3) := by decide +kernel
theorem dX7_settle_66 : decode cX7_settle 66 = .ok (.iastore, 1) := by decide +kernel
theorem dX7_settle_67 : decode cX7_settle 67 = .ok (.return_, 1) := by decide +kernel
theorem dX7_unite_0 : decode cX7_unite 0 = .ok (.iconst 0, 1) := by decide +kernel
theorem dX7_unite_1 : decode cX7_unite 1 = .ok (.istore_n 3, 1) := by decide +kernel
theorem dX7_unite_2 : decode cX7_unite 2 = .ok (.iload_n 3, 1) := by decide +kernel
theorem dX7_unite_3 : decode cX7_unite 3 = .ok (.aload_n 0, 1) := by decide +kernel
theorem dX7_unite_4 : decode cX7_unite 4 = .ok (.getfield 24, 3) := by decide +kernel
theorem dX7_unite_7 : decode cX7_unite 7 = .ok (.getfield 47, 3) := by decide +kernel
theorem dX7_unite_10 : decode cX7_unite 10 = .ok (.if_icmp .ge 35, 3) := by decide +kernel
theorem dX7_unite_13 : decode cX7_unite 13 = .ok (.aload_n 0, 1) := by decide +kernel
theorem dX7_unite_14 : decode cX7_unite 14 = .ok (.iload_n 1, 1) := by decide +kernel
theorem dX7_unite_15 : decode cX7_unite 15 = .ok (.iload_n 3, 1) := by decide +kernel
theorem dX7_unite_16 : decode cX7_unite 16 = .ok (.aload_n 0, 1) := by decide +kernel
theorem dX7_unite_17 : decode cX7_unite 17 = .ok (.iload_n 1, 1) := by decide +kernel
theorem dX7_unite_18 : decode cX7_unite 18 = .ok (.iload_n 3, 1) := by decide +kernel
theorem dX7_unite_19 : decode cX7_unite 19 = .ok (.invokevirtual 52, 3) := by decide +kernel
theorem dX7_unite_22 : decode cX7_unite 22 = .ok (.aload_n 0, 1) := by decide +kernel
theorem dX7_unite_23 : decode cX7_unite 23 = .ok (.iload_n 2, 1) := by decide +kernel
theorem dX7_unite_24 : decode cX7_unite 24 = .ok (.iload_n 3, 1) := by decide +kernel
theorem dX7_unite_25 : decode cX7_unite 25 = .ok (.invokevirtual 52, 3) := by decide +kernel
theorem dX7_unite_28 : decode cX7_unite 28 = .ok (.iadd, 1) := by decide +kernel
theorem dX7_unite_29 : decode cX7_unite 29 = .ok (.invokevirtual 95, 3) := by decide +kernel
theorem dX7_unite_32 : decode cX7_unite 32 = .ok (.aload_n 0, 1) := by decide +kernel
theorem dX7_unite_33 : decode cX7_unite 33 = .ok (.iload_n 2, 1) := by decide +kernel
theorem dX7_unite_34 : decode cX7_unite 34 = .ok (.iload_n 3, 1) := by decide +kernel
theorem dX7_unite_35 : decode cX7_unite 35 = .ok (.iconst 0, 1) := by decide +kernel
theorem dX7_unite_36 : decode cX7_unite 36 = .ok (.invokevirtual 95, 3) := by decide +kernel
theorem dX7_unite_39 : decode cX7_unite 39 = .ok (.iinc 3 1, 3) := by decide +kernel
theorem dX7_unite_42 : decode cX7_unite 42 = .ok (.goto (-40), 3) := by decide +kernel
theorem dX7_unite_45 : decode cX7_unite 45 = .ok (.aload_n 0, 1) := by decide +kernel
theorem dX7_unite_46 : decode cX7_unite 46 = .ok (.getfield 18, 3) := by decide +kernel
theorem dX7_unite_49 : decode cX7_unite 49 = .ok (.iload_n 1, 1) := by decide +kernel
theorem dX7_unite_50 : decode cX7_unite 50 = .ok (.dup2, 1) := by decide +kernel
theorem dX7_unite_51 : decode cX7_unite 51 = .ok (.iaload, 1) := by decide +kernel
theorem dX7_unite_52 : decode cX7_unite 52 = .ok (.aload_n 0, 1) := by decide +kernel
theorem dX7_unite_53 : decode cX7_unite 53 = .ok (.getfield 18, 3) := by decide +kernel
theorem dX7_unite_56 : decode cX7_unite 56 = .ok (.iload_n 2, 1) := by decide +kernel
theorem dX7_unite_57 : decode cX7_unite 57 = .ok (.iaload, 1) := by decide +kernel
theorem dX7_unite_58 : decode cX7_unite 58 = .ok (.ior, 1) := by decide +kernel
theorem dX7_unite_59 : decode cX7_unite 59 = .ok (.iastore, 1) := by decide +kernel
theorem dX7_unite_60 : decode cX7_unite 60 = .ok (.aload_n 0, 1) := by decide +kernel
theorem dX7_unite_61 : decode cX7_unite 61 = .ok (.getfield 18, 3) := by decide +kernel
theorem dX7_unite_64 : decode cX7_unite 64 = .ok (.iload_n 2, 1) := by decide +kernel
theorem dX7_unite_65 : decode cX7_unite 65 = .ok (.iconst 0, 1) := by decide +kernel
theorem dX7_unite_66 : decode cX7_unite 66 = .ok (.iastore, 1) := by decide +kernel
theorem dX7_unite_67 : decode cX7_unite 67 = .ok (.aload_n 0, 1) := by decide +kernel
theorem dX7_unite_68 : decode cX7_unite 68 = .ok (.getfield 21, 3) := by decide +kernel
theorem dX7_unite_71 : decode cX7_unite 71 = .ok (.iload_n 1, 1) := by decide +kernel
theorem dX7_unite_72 : decode cX7_unite 72 = .ok (.iload_n 2, 1) := by decide +kernel
theorem dX7_unite_73 : decode cX7_unite 73 = .ok (.iastore, 1) := by decide +kernel
theorem dX7_unite_74 : decode cX7_unite 74 = .ok (.aload_n 0, 1) := by decide +kernel
theorem dX7_unite_75 : decode cX7_unite 75 = .ok (.getfield 21, 3) := by decide +kernel
theorem dX7_unite_78 : decode cX7_unite 78 = .ok (.iload_n 2, 1) := by decide +kernel
theorem dX7_unite_79 : decode cX7_unite 79 = .ok (.iload_n 1, 1) := by decide +kernel
theorem dX7_unite_80 : decode cX7_unite 80 = .ok (.iastore, 1) := by decide +kernel
theorem dX7_unite_81 : decode cX7_unite 81 = .ok (.return_, 1) := by decide +kernel
theorem dX7_part_0 : decode cX7_part 0 = .ok (.iconst 0, 1) := by decide +kernel
theorem dX7_part_1 : decode cX7_part 1 = .ok (.istore_n 3, 1) := by decide +kernel
theorem dX7_part_2 : decode cX7_part 2 = .ok (.iload_n 3, 1) := by decide +kernel
theorem dX7_part_3 : decode cX7_part 3 = .ok (.aload_n 0, 1) := by decide +kernel
theorem dX7_part_4 : decode cX7_part 4 = .ok (.getfield 24, 3) := by decide +kernel
theorem dX7_part_7 : decode cX7_part 7 = .ok (.getfield 47, 3) := by decide +kernel
theorem dX7_part_10 : decode cX7_part 10 = .ok (.if_icmp .ge 42, 3) := by decide +kernel
theorem dX7_part_13 : decode cX7_part 13 = .ok (.aload_n 0, 1) := by decide +kernel
theorem dX7_part_14 : decode cX7_part 14 = .ok (.iload_n 1, 1) := by decide +kernel
theorem dX7_part_15 : decode cX7_part 15 = .ok (.iload_n 3, 1) := by decide +kernel
theorem dX7_part_16 : decode cX7_part 16 = .ok (.invokevirtual 52, 3) := by decide +kernel
theorem dX7_part_19 : decode cX7_part 19 = .ok (.iconst 2, 1) := by decide +kernel
theorem dX7_part_20 : decode cX7_part 20 = .ok (.idiv, 1) := by decide +kernel
theorem dX7_part_21 : decode cX7_part 21 = .ok (.istore 4, 2) := by decide +kernel
theorem dX7_part_23 : decode cX7_part 23 = .ok (.aload_n 0, 1) := by decide +kernel
theorem dX7_part_24 : decode cX7_part 24 = .ok (.iload_n 2, 1) := by decide +kernel
theorem dX7_part_25 : decode cX7_part 25 = .ok (.iload_n 3, 1) := by decide +kernel
theorem dX7_part_26 : decode cX7_part 26 = .ok (.iload 4, 2) := by decide +kernel
theorem dX7_part_28 : decode cX7_part 28 = .ok (.invokevirtual 95, 3) := by decide +kernel
theorem dX7_part_31 : decode cX7_part 31 = .ok (.aload_n 0, 1) := by decide +kernel
theorem dX7_part_32 : decode cX7_part 32 = .ok (.iload_n 1, 1) := by decide +kernel
theorem dX7_part_33 : decode cX7_part 33 = .ok (.iload_n 3, 1) := by decide +kernel
theorem dX7_part_34 : decode cX7_part 34 = .ok (.aload_n 0, 1) := by decide +kernel
theorem dX7_part_35 : decode cX7_part 35 = .ok (.iload_n 1, 1) := by decide +kernel
theorem dX7_part_36 : decode cX7_part 36 = .ok (.iload_n 3, 1) := by decide +kernel
theorem dX7_part_37 : decode cX7_part 37 = .ok (.invokevirtual 52, 3) := by decide +kernel
theorem dX7_part_40 : decode cX7_part 40 = .ok (.iload 4, 2) := by decide +kernel
theorem dX7_part_42 : decode cX7_part 42 = .ok (.isub, 1) := by decide +kernel
theorem dX7_part_43 : decode cX7_part 43 = .ok (.invokevirtual 95, 3) := by decide +kernel
theorem dX7_part_46 : decode cX7_part 46 = .ok (.iinc 3 1, 3) := by decide +kernel
theorem dX7_part_49 : decode cX7_part 49 = .ok (.goto (-47), 3) := by decide +kernel
theorem dX7_part_52 : decode cX7_part 52 = .ok (.aload_n 0, 1) := by decide +kernel
theorem dX7_part_53 : decode cX7_part 53 = .ok (.getfield 18, 3) := by decide +kernel
theorem dX7_part_56 : decode cX7_part 56 = .ok (.iload_n 2, 1) := by decide +kernel
theorem dX7_part_57 : decode cX7_part 57 = .ok (.aload_n 0, 1) := by decide +kernel
theorem dX7_part_58 : decode cX7_part 58 = .ok (.getfield 18, 3) := by decide +kernel
theorem dX7_part_61 : decode cX7_part 61 = .ok (.iload_n 1, 1) := by decide +kernel
theorem dX7_part_62 : decode cX7_part 62 = .ok (.iaload, 1) := by decide +kernel
theorem dX7_part_63 : decode cX7_part 63 = .ok (.iastore, 1) := by decide +kernel
theorem dX7_part_64 : decode cX7_part 64 = .ok (.aload_n 0, 1) := by decide +kernel
theorem dX7_part_65 : decode cX7_part 65 = .ok (.getfield 21, 3) := by decide +kernel
theorem dX7_part_68 : decode cX7_part 68 = .ok (.iload_n 1, 1) := by decide +kernel
theorem dX7_part_69 : decode cX7_part 69 = .ok (.iconst (-1), 1) := by decide +kernel
theorem dX7_part_70 : decode cX7_part 70 = .ok (.iastore, 1) := by decide +kernel
theorem dX7_part_71 : decode cX7_part 71 = .ok (.aload_n 0, 1) := by decide +kernel
theorem dX7_part_72 : decode cX7_part 72 = .ok (.getfield 21, 3) := by decide +kernel
theorem dX7_part_75 : decode cX7_part 75 = .ok (.iload_n 2, 1) := by decide +kernel
theorem dX7_part_76 : decode cX7_part 76 = .ok (.iconst (-1), 1) := by decide +kernel
theorem dX7_part_77 : decode cX7_part 77 = .ok (.iastore, 1) := by decide +kernel
theorem dX7_part_78 : decode cX7_part 78 = .ok (.return_, 1) := by decide +kernel
theorem dX7_passQuarter_0 : decode cX7_passQuarter 0 = .ok (.iconst 0, 1) := by decide +kernel
theorem dX7_passQuarter_1 : decode cX7_passQuarter 1 = .ok (.istore_n 1, 1) := by decide +kernel
theorem dX7_passQuarter_2 : decode cX7_passQuarter 2 = .ok (.iload_n 1, 1) := by decide +kernel
theorem dX7_passQuarter_3 : decode cX7_passQuarter 3 = .ok (.aload_n 0, 1) := by decide +kernel
theorem dX7_passQuarter_4 : decode cX7_passQuarter 4 = .ok (.getfield 24, 3) := by decide +kernel
theorem dX7_passQuarter_7 : decode cX7_passQuarter 7 = .ok (.getfield 55, 3) := by decide +kernel
theorem dX7_passQuarter_10 : decode cX7_passQuarter 10 = .ok (.if_icmp .ge 54, 3) := by decide +kernel
theorem dX7_passQuarter_13 : decode cX7_passQuarter 13 = .ok (.aload_n 0, 1) := by decide +kernel
theorem dX7_passQuarter_14 : decode cX7_passQuarter 14 = .ok (.getfield 18, 3) := by decide +kernel
theorem dX7_passQuarter_17 : decode cX7_passQuarter 17 = .ok (.iload_n 1, 1) := by decide +kernel
theorem dX7_passQuarter_18 : decode cX7_passQuarter 18 = .ok (.iconst 0, 1) := by decide +kernel
theorem dX7_passQuarter_19 : decode cX7_passQuarter 19 = .ok (.iastore, 1) := by decide +kernel
theorem dX7_passQuarter_20 : decode cX7_passQuarter 20 = .ok (.iconst 0, 1) := by decide +kernel
theorem dX7_passQuarter_21 : decode cX7_passQuarter 21 = .ok (.istore_n 2, 1) := by decide +kernel
theorem dX7_passQuarter_22 : decode cX7_passQuarter 22 = .ok (.iload_n 2, 1) := by decide +kernel
theorem dX7_passQuarter_23 : decode cX7_passQuarter 23 = .ok (.aload_n 0, 1) := by decide +kernel
theorem dX7_passQuarter_24 : decode cX7_passQuarter 24 = .ok (.getfield 24, 3) := by decide +kernel
theorem dX7_passQuarter_27 : decode cX7_passQuarter 27 = .ok (.getfield 47, 3) := by decide +kernel
theorem dX7_passQuarter_30 : decode cX7_passQuarter 30 = .ok (.if_icmp .ge 28, 3) := by decide +kernel
theorem dX7_passQuarter_33 : decode cX7_passQuarter 33 = .ok (.aload_n 0, 1) := by decide +kernel
theorem dX7_passQuarter_34 : decode cX7_passQuarter 34 = .ok (.iload_n 1, 1) := by decide +kernel
theorem dX7_passQuarter_35 : decode cX7_passQuarter 35 = .ok (.iload_n 2, 1) := by decide +kernel
theorem dX7_passQuarter_36 : decode cX7_passQuarter 36 = .ok (.aload_n 0, 1) := by decide +kernel
theorem dX7_passQuarter_37 : decode cX7_passQuarter 37 = .ok (.getfield 24, 3) := by decide +kernel
theorem dX7_passQuarter_40 : decode cX7_passQuarter 40 = .ok (.aload_n 0, 1) := by decide +kernel
theorem dX7_passQuarter_41 : decode cX7_passQuarter 41 = .ok (.iload_n 1, 1) := by decide +kernel
theorem dX7_passQuarter_42 : decode cX7_passQuarter 42 = .ok (.iload_n 2, 1) := by decide +kernel
theorem dX7_passQuarter_43 : decode cX7_passQuarter 43 = .ok (.invokevirtual 52, 3) := by decide +kernel
theorem dX7_passQuarter_46 : decode cX7_passQuarter 46 = .ok (.invokevirtual 102, 3) := by decide +kernel
theorem dX7_passQuarter_49 : decode cX7_passQuarter 49 = .ok (.invokevirtual 95, 3) := by decide +kernel
theorem dX7_passQuarter_52 : decode cX7_passQuarter 52 = .ok (.iinc 2 1, 3) := by decide +kernel
theorem dX7_passQuarter_55 : decode cX7_passQuarter 55 = .ok (.goto (-33), 3) := by decide +kernel
theorem dX7_passQuarter_58 : decode cX7_passQuarter 58 = .ok (.iinc 1 1, 3) := by decide +kernel
theorem dX7_passQuarter_61 : decode cX7_passQuarter 61 = .ok (.goto (-59), 3) := by decide +kernel
theorem dX7_passQuarter_64 : decode cX7_passQuarter 64 = .ok (.iconst 0, 1) := by decide +kernel
theorem dX7_passQuarter_65 : decode cX7_passQuarter 65 = .ok (.istore_n 1, 1) := by decide +kernel
theorem dX7_passQuarter_66 : decode cX7_passQuarter 66 = .ok (.iconst 0, 1) := by decide +kernel
theorem dX7_passQuarter_67 : decode cX7_passQuarter 67 = .ok (.istore_n 2, 1) := by decide +kernel
theorem dX7_passQuarter_68 : decode cX7_passQuarter 68 = .ok (.iload_n 2, 1) := by decide +kernel
theorem dX7_passQuarter_69 : decode cX7_passQuarter 69 = .ok (.aload_n 0, 1) := by decide +kernel
theorem dX7_passQuarter_70 : decode cX7_passQuarter 70 = .ok (.getfield 24, 3) := by decide +kernel
theorem dX7_passQuarter_73 : decode cX7_passQuarter 73 = .ok (.getfield 47, 3) := by decide +kernel
theorem dX7_passQuarter_76 : decode cX7_passQuarter 76 = .ok (.if_icmp .ge 42, 3) := by decide +kernel
theorem dX7_passQuarter_79 : decode cX7_passQuarter 79 = .ok (.aload_n 0, 1) := by decide +kernel
theorem dX7_passQuarter_80 : decode cX7_passQuarter 80 = .ok (.iload_n 2, 1) := by decide +kernel
theorem dX7_passQuarter_81 : decode cX7_passQuarter 81 = .ok (.invokevirtual 66, 3) := by decide +kernel
theorem dX7_passQuarter_84 : decode cX7_passQuarter 84 = .ok (.ifCond .ne 28, 3) := by decide +kernel
theorem dX7_passQuarter_87 : decode cX7_passQuarter 87 = .ok (.aload_n 0, 1) := by decide +kernel
theorem dX7_passQuarter_88 : decode cX7_passQuarter 88 = .ok (.iload_n 2, 1) := by decide +kernel
theorem dX7_passQuarter_89 : decode cX7_passQuarter 89 = .ok (.invokevirtual 105, 3) := by decide +kernel
theorem dX7_passQuarter_92 : decode cX7_passQuarter 92 = .ok (.aload_n 0, 1) := by decide +kernel
theorem dX7_passQuarter_93 : decode cX7_passQuarter 93 = .ok (.getfield 15, 3) := by decide +kernel
theorem dX7_passQuarter_96 : decode cX7_passQuarter 96 = .ok (.iload_n 2, 1) := by decide +kernel
theorem dX7_passQuarter_97 : decode cX7_passQuarter 97 = .ok (.iaload, 1) := by decide +kernel
theorem dX7_passQuarter_98 : decode cX7_passQuarter 98 = .ok (.if_icmp .le 14, 3) := by decide +kernel
theorem dX7_passQuarter_101 : decode cX7_passQuarter 101 = .ok (.iload_n 1, 1) := by decide +kernel
theorem dX7_passQuarter_102 : decode cX7_passQuarter 102 = .ok (.iconst 1, 1) := by decide +kernel
theorem dX7_passQuarter_103 : decode cX7_passQuarter 103 = .ok (.iload_n 2, 1) := by decide +kernel
theorem dX7_passQuarter_104 : decode cX7_passQuarter 104 = .ok (.ishl, 1) := by decide +kernel
theorem dX7_passQuarter_105 : decode cX7_passQuarter 105 = .ok (.ior, 1) := by decide +kernel
theorem dX7_passQuarter_106 : decode cX7_passQuarter 106 = .ok (.istore_n 1, 1) := by decide +kernel
theorem dX7_passQuarter_107 : decode cX7_passQuarter 107 = .ok (.aload_n 0, 1) := by decide +kernel
theorem dX7_passQuarter_108 : decode cX7_passQuarter 108 = .ok (.iload_n 2, 1) := by decide +kernel
theorem dX7_passQuarter_109 : decode cX7_passQuarter 109 = .ok (.invokevirtual 108, 3) := by decide +kernel
theorem dX7_passQuarter_112 : decode cX7_passQuarter 112 = .ok (.iinc 2 1, 3) := by decide +kernel
theorem dX7_passQuarter_115 : decode cX7_passQuarter 115 = .ok (.goto (-47), 3) := by decide +kernel
theorem dX7_passQuarter_118 : decode cX7_passQuarter 118 = .ok (.aload_n 0, 1) := by decide +kernel
theorem dX7_passQuarter_119 : decode cX7_passQuarter 119 = .ok (.dup, 1) := by decide +kernel
theorem dX7_passQuarter_120 : decode cX7_passQuarter 120 = .ok (.getfield 28, 3) := by decide +kernel
theorem dX7_passQuarter_123 : decode cX7_passQuarter 123 = .ok (.iload_n 1, 1) := by decide +kernel
theorem dX7_passQuarter_124 : decode cX7_passQuarter 124 = .ok (.ior, 1) := by decide +kernel
theorem dX7_passQuarter_125 : decode cX7_passQuarter 125 = .ok (.putfield 28, 3) := by decide +kernel
theorem dX7_passQuarter_128 : decode cX7_passQuarter 128 = .ok (.aload_n 0, 1) := by decide +kernel
theorem dX7_passQuarter_129 : decode cX7_passQuarter 129 = .ok (.dup, 1) := by decide +kernel
theorem dX7_passQuarter_130 : decode cX7_passQuarter 130 = .ok (.getfield 32, 3) := by decide +kernel
theorem dX7_passQuarter_133 : decode cX7_passQuarter 133 = .ok (.iconst 1, 1) := by decide +kernel
theorem dX7_passQuarter_134 : decode cX7_passQuarter 134 = .ok (.iadd, 1) := by decide +kernel
theorem dX7_passQuarter_135 : decode cX7_passQuarter 135 = .ok (.putfield 32, 3) := by decide +kernel
theorem dX7_passQuarter_138 : decode cX7_passQuarter 138 = .ok (.iload_n 1, 1) := by decide +kernel
theorem dX7_passQuarter_139 : decode cX7_passQuarter 139 = .ok (.ireturn, 1) := by decide +kernel
theorem dX7_owedSourly_0 : decode cX7_owedSourly 0 = .ok (.iconst 0, 1) := by decide +kernel
theorem dX7_owedSourly_1 : decode cX7_owedSourly 1 = .ok (.istore_n 2, 1) := by decide +kernel
theorem dX7_owedSourly_2 : decode cX7_owedSourly 2 = .ok (.iconst 0, 1) := by decide +kernel
theorem dX7_owedSourly_3 : decode cX7_owedSourly 3 = .ok (.istore_n 3, 1) := by decide +kernel
theorem dX7_owedSourly_4 : decode cX7_owedSourly 4 = .ok (.iload_n 3, 1) := by decide +kernel
theorem dX7_owedSourly_5 : decode cX7_owedSourly 5 = .ok (.aload_n 0, 1) := by decide +kernel
theorem dX7_owedSourly_6 : decode cX7_owedSourly 6 = .ok (.getfield 24, 3) := by decide +kernel
theorem dX7_owedSourly_9 : decode cX7_owedSourly 9 = .ok (.getfield 55, 3) := by decide +kernel
theorem dX7_owedSourly_12 : decode cX7_owedSourly 12 = .ok (.if_icmp .ge 28, 3) := by decide +kernel
theorem dX7_owedSourly_15 : decode cX7_owedSourly 15 = .ok (.aload_n 0, 1) := by decide +kernel
theorem dX7_owedSourly_16 : decode cX7_owedSourly 16 = .ok (.iload_n 3, 1) := by decide +kernel
theorem dX7_owedSourly_17 : decode cX7_owedSourly 17 = .ok (.iload_n 1, 1) := by decide +kernel
theorem dX7_owedSourly_18 : decode cX7_owedSourly 18 = .ok (.invokevirtual 83, 3) := by decide +kernel
theorem dX7_owedSourly_21 : decode cX7_owedSourly 21 = .ok (.iconst 2, 1) := by decide +kernel
theorem dX7_owedSourly_22 : decode cX7_owedSourly 22 = .ok (.if_icmp .ne 12, 3) := by decide +kernel
theorem dX7_owedSourly_25 : decode cX7_owedSourly 25 = .ok (.iload_n 2, 1) := by decide +kernel
theorem dX7_owedSourly_26 : decode cX7_owedSourly 26 = .ok (.aload_n 0, 1) := by decide +kernel
theorem dX7_owedSourly_27 : decode cX7_owedSourly 27 = .ok (.iload_n 3, 1) := by decide +kernel
theorem dX7_owedSourly_28 : decode cX7_owedSourly 28 = .ok (.iload_n 1, 1) := by decide +kernel
theorem dX7_owedSourly_29 : decode cX7_owedSourly 29 = .ok (.invokevirtual 52, 3) := by decide +kernel
theorem dX7_owedSourly_32 : decode cX7_owedSourly 32 = .ok (.iadd, 1) := by decide +kernel
theorem dX7_owedSourly_33 : decode cX7_owedSourly 33 = .ok (.istore_n 2, 1) := by decide +kernel
theorem dX7_owedSourly_34 : decode cX7_owedSourly 34 = .ok (.iinc 3 1, 3) := by decide +kernel
theorem dX7_owedSourly_37 : decode cX7_owedSourly 37 = .ok (.goto (-33), 3) := by decide +kernel
theorem dX7_owedSourly_40 : decode cX7_owedSourly 40 = .ok (.iload_n 2, 1) := by decide +kernel
theorem dX7_owedSourly_41 : decode cX7_owedSourly 41 = .ok (.ireturn, 1) := by decide +kernel
theorem dX7_forgive_0 : decode cX7_forgive 0 = .ok (.iconst 0, 1) := by decide +kernel
theorem dX7_forgive_1 : decode cX7_forgive 1 = .ok (.istore_n 2, 1) := by decide +kernel
theorem dX7_forgive_2 : decode cX7_forgive 2 = .ok (.iload_n 2, 1) := by decide +kernel
theorem dX7_forgive_3 : decode cX7_forgive 3 = .ok (.aload_n 0, 1) := by decide +kernel
theorem dX7_forgive_4 : decode cX7_forgive 4 = .ok (.getfield 24, 3) := by decide +kernel
theorem dX7_forgive_7 : decode cX7_forgive 7 = .ok (.getfield 55, 3) := by decide +kernel
theorem dX7_forgive_10 : decode cX7_forgive 10 = .ok (.if_icmp .ge 16, 3) := by decide +kernel
theorem dX7_forgive_13 : decode cX7_forgive 13 = .ok (.aload_n 0, 1) := by decide +kernel
theorem dX7_forgive_14 : decode cX7_forgive 14 = .ok (.iload_n 2, 1) := by decide +kernel
theorem dX7_forgive_15 : decode cX7_forgive 15 = .ok (.iload_n 1, 1) := by decide +kernel
theorem dX7_forgive_16 : decode cX7_forgive 16 = .ok (.iconst 0, 1) := by decide +kernel
theorem dX7_forgive_17 : decode cX7_forgive 17 = .ok (.invokevirtual 95, 3) := by decide +kernel
theorem dX7_forgive_20 : decode cX7_forgive 20 = .ok (.iinc 2 1, 3) := by decide +kernel
theorem dX7_forgive_23 : decode cX7_forgive 23 = .ok (.goto (-21), 3) := by decide +kernel
theorem dX7_forgive_26 : decode cX7_forgive 26 = .ok (.return_, 1) := by decide +kernel
theorem dX7_mayReachLow_0 : decode cX7_mayReachLow 0 = .ok (.aload_n 0, 1) := by decide +kernel
theorem dX7_mayReachLow_1 : decode cX7_mayReachLow 1 = .ok (.iload_n 1, 1) := by decide +kernel
theorem dX7_mayReachLow_2 : decode cX7_mayReachLow 2 = .ok (.iload_n 2, 1) := by decide +kernel
theorem dX7_mayReachLow_3 : decode cX7_mayReachLow 3 = .ok (.invokevirtual 83, 3) := by decide +kernel
theorem dX7_mayReachLow_6 : decode cX7_mayReachLow 6 = .ok (.ifCond .ne 16, 3) := by decide +kernel
theorem dX7_mayReachLow_9 : decode cX7_mayReachLow 9 = .ok (.aload_n 0, 1) := by decide +kernel
theorem dX7_mayReachLow_10 : decode cX7_mayReachLow 10 = .ok (.iload_n 1, 1) := by decide +kernel
theorem dX7_mayReachLow_11 : decode cX7_mayReachLow 11 = .ok (.iload_n 2, 1) := by decide +kernel
theorem dX7_mayReachLow_12 : decode cX7_mayReachLow 12 = .ok (.invokevirtual 75, 3) := by decide +kernel
theorem dX7_mayReachLow_15 : decode cX7_mayReachLow 15 = .ok (.ifCond .ne 7, 3) := by decide +kernel
theorem dX7_mayReachLow_18 : decode cX7_mayReachLow 18 = .ok (.iconst 1, 1) := by decide +kernel
theorem dX7_mayReachLow_19 : decode cX7_mayReachLow 19 = .ok (.goto 4, 3) := by decide +kernel
theorem dX7_mayReachLow_22 : decode cX7_mayReachLow 22 = .ok (.iconst 0, 1) := by decide +kernel
theorem dX7_mayReachLow_23 : decode cX7_mayReachLow 23 = .ok (.istore_n 3, 1) := by decide +kernel
theorem dX7_mayReachLow_24 : decode cX7_mayReachLow 24 = .ok (.iload_n 3, 1) := by decide +kernel
theorem dX7_mayReachLow_25 : decode cX7_mayReachLow 25 = .ok (.ifCond .eq 32, 3) := by decide +kernel
theorem dX7_mayReachLow_28 : decode cX7_mayReachLow 28 = .ok (.aload_n 0, 1) := by decide +kernel
theorem dX7_mayReachLow_29 : decode cX7_mayReachLow 29 = .ok (.iload_n 1, 1) := by decide +kernel
theorem dX7_mayReachLow_30 : decode cX7_mayReachLow 30 = .ok (.iload_n 2, 1) := by decide +kernel
theorem dX7_mayReachLow_31 : decode cX7_mayReachLow 31 = .ok (.aload_n 0, 1) := by decide +kernel
theorem dX7_mayReachLow_32 : decode cX7_mayReachLow 32 = .ok (.getfield 24, 3) := by decide +kernel
theorem dX7_mayReachLow_35 : decode cX7_mayReachLow 35 = .ok (.getfield 69, 3) := by decide +kernel
theorem dX7_mayReachLow_38 : decode cX7_mayReachLow 38 = .ok (.iload_n 2, 1) := by decide +kernel
theorem dX7_mayReachLow_39 : decode cX7_mayReachLow 39 = .ok (.iaload, 1) := by decide +kernel
theorem dX7_mayReachLow_40 : decode cX7_mayReachLow 40 = .ok (.aload_n 0, 1) := by decide +kernel
theorem dX7_mayReachLow_41 : decode cX7_mayReachLow 41 = .ok (.iload_n 1, 1) := by decide +kernel
theorem dX7_mayReachLow_42 : decode cX7_mayReachLow 42 = .ok (.iload_n 2, 1) := by decide +kernel
theorem dX7_mayReachLow_43 : decode cX7_mayReachLow 43 = .ok (.invokevirtual 52, 3) := by decide +kernel
theorem dX7_mayReachLow_46 : decode cX7_mayReachLow 46 = .ok (.isub, 1) := by decide +kernel
theorem dX7_mayReachLow_47 : decode cX7_mayReachLow 47 = .ok (.invokevirtual 112, 3) := by decide +kernel
theorem dX7_mayReachLow_50 : decode cX7_mayReachLow 50 = .ok (.ifCond .eq 7, 3) := by decide +kernel
theorem dX7_mayReachLow_53 : decode cX7_mayReachLow 53 = .ok (.iconst 1, 1) := by decide +kernel
theorem dX7_mayReachLow_54 : decode cX7_mayReachLow 54 = .ok (.goto 4, 3) := by decide +kernel
theorem dX7_mayReachLow_57 : decode cX7_mayReachLow 57 = .ok (.iconst 0, 1) := by decide +kernel
theorem dX7_mayReachLow_58 : decode cX7_mayReachLow 58 = .ok (.ireturn, 1) := by decide +kernel
theorem dX7_coinsFor_0 : decode cX7_coinsFor 0 = .ok (.iconst 0, 1) := by decide +kernel
theorem dX7_coinsFor_1 : decode cX7_coinsFor 1 = .ok (.istore_n 3, 1) := by decide +kernel
theorem dX7_coinsFor_2 : decode cX7_coinsFor 2 = .ok (.iconst 0, 1) := by decide +kernel
theorem dX7_coinsFor_3 : decode cX7_coinsFor 3 = .ok (.istore 4, 2) := by decide +kernel
theorem dX7_coinsFor_5 : decode cX7_coinsFor 5 = .ok (.iload 4, 2) := by decide +kernel
theorem dX7_coinsFor_7 : decode cX7_coinsFor 7 = .ok (.aload_n 0, 1) := by decide +kernel
theorem dX7_coinsFor_8 : decode cX7_coinsFor 8 = .ok (.getfield 24, 3) := by decide +kernel
theorem dX7_coinsFor_11 : decode cX7_coinsFor 11 = .ok (.getfield 47, 3) := by decide +kernel
theorem dX7_coinsFor_14 : decode cX7_coinsFor 14 = .ok (.if_icmp .ge 40, 3) := by decide +kernel
theorem dX7_coinsFor_17 : decode cX7_coinsFor 17 = .ok (.iload_n 2, 1) := by decide +kernel
theorem dX7_coinsFor_18 : decode cX7_coinsFor 18 = .ok (.iload 4, 2) := by decide +kernel
theorem dX7_coinsFor_20 : decode cX7_coinsFor 20 = .ok (.ishr, 1) := by decide +kernel
theorem dX7_coinsFor_21 : decode cX7_coinsFor 21 = .ok (.iconst 1, 1) := by decide +kernel
theorem dX7_coinsFor_22 : decode cX7_coinsFor 22 = .ok (.iand, 1) := by decide +kernel
theorem dX7_coinsFor_23 : decode cX7_coinsFor 23 = .ok (.iconst 1, 1) := by decide +kernel
theorem dX7_coinsFor_24 : decode cX7_coinsFor 24 = .ok (.if_icmp .ne 24, 3) := by decide +kernel
theorem dX7_coinsFor_27 : decode cX7_coinsFor 27 = .ok (.iload_n 3, 1) := by decide +kernel
theorem dX7_coinsFor_28 : decode cX7_coinsFor 28 = .ok (.aload_n 0, 1) := by decide +kernel
theorem dX7_coinsFor_29 : decode cX7_coinsFor 29 = .ok (.getfield 24, 3) := by decide +kernel
theorem dX7_coinsFor_32 : decode cX7_coinsFor 32 = .ok (.getfield 69, 3) := by decide +kernel
theorem dX7_coinsFor_35 : decode cX7_coinsFor 35 = .ok (.iload 4, 2) := by decide +kernel
theorem dX7_coinsFor_37 : decode cX7_coinsFor 37 = .ok (.iaload, 1) := by decide +kernel
theorem dX7_coinsFor_38 : decode cX7_coinsFor 38 = .ok (.aload_n 0, 1) := by decide +kernel
theorem dX7_coinsFor_39 : decode cX7_coinsFor 39 = .ok (.iload_n 1, 1) := by decide +kernel
theorem dX7_coinsFor_40 : decode cX7_coinsFor 40 = .ok (.iload 4, 2) := by decide +kernel
theorem dX7_coinsFor_42 : decode cX7_coinsFor 42 = .ok (.invokevirtual 52, 3) := by decide +kernel
theorem dX7_coinsFor_45 : decode cX7_coinsFor 45 = .ok (.isub, 1) := by decide +kernel
theorem dX7_coinsFor_46 : decode cX7_coinsFor 46 = .ok (.iadd, 1) := by decide +kernel
theorem dX7_coinsFor_47 : decode cX7_coinsFor 47 = .ok (.istore_n 3, 1) := by decide +kernel
theorem dX7_coinsFor_48 : decode cX7_coinsFor 48 = .ok (.iinc 4 1, 3) := by decide +kernel
theorem dX7_coinsFor_51 : decode cX7_coinsFor 51 = .ok (.goto (-46), 3) := by decide +kernel
theorem dX7_coinsFor_54 : decode cX7_coinsFor 54 = .ok (.iload_n 3, 1) := by decide +kernel
theorem dX7_coinsFor_55 : decode cX7_coinsFor 55 = .ok (.ireturn, 1) := by decide +kernel
theorem dX7_worthOfSet_0 : decode cX7_worthOfSet 0 = .ok (.iconst 0, 1) := by decide +kernel
theorem dX7_worthOfSet_1 : decode cX7_worthOfSet 1 = .ok (.istore_n 2, 1) := by decide +kernel
theorem dX7_worthOfSet_2 : decode cX7_worthOfSet 2 = .ok (.iconst 0, 1) := by decide +kernel
theorem dX7_worthOfSet_3 : decode cX7_worthOfSet 3 = .ok (.istore_n 3, 1) := by decide +kernel
theorem dX7_worthOfSet_4 : decode cX7_worthOfSet 4 = .ok (.iload_n 3, 1) := by decide +kernel
theorem dX7_worthOfSet_5 : decode cX7_worthOfSet 5 = .ok (.aload_n 0, 1) := by decide +kernel
theorem dX7_worthOfSet_6 : decode cX7_worthOfSet 6 = .ok (.getfield 24, 3) := by decide +kernel
theorem dX7_worthOfSet_9 : decode cX7_worthOfSet 9 = .ok (.getfield 47, 3) := by decide +kernel
theorem dX7_worthOfSet_12 : decode cX7_worthOfSet 12 = .ok (.if_icmp .ge 30, 3) := by decide +kernel
theorem dX7_worthOfSet_15 : decode cX7_worthOfSet 15 = .ok (.iload_n 1, 1) := by decide +kernel
theorem dX7_worthOfSet_16 : decode cX7_worthOfSet 16 = .ok (.iload_n 3, 1) := by decide +kernel
theorem dX7_worthOfSet_17 : decode cX7_worthOfSet 17 = .ok (.ishr, 1) := by decide +kernel
theorem dX7_worthOfSet_18 : decode cX7_worthOfSet 18 = .ok (.iconst 1, 1) := by decide +kernel
theorem dX7_worthOfSet_19 : decode cX7_worthOfSet 19 = .ok (.iand, 1) := by decide +kernel
theorem dX7_worthOfSet_20 : decode cX7_worthOfSet 20 = .ok (.iconst 1, 1) := by decide +kernel
theorem dX7_worthOfSet_21 : decode cX7_worthOfSet 21 = .ok (.if_icmp .ne 15, 3) := by decide +kernel
theorem dX7_worthOfSet_24 : decode cX7_worthOfSet 24 = .ok (.iload_n 2, 1) := by decide +kernel
theorem dX7_worthOfSet_25 : decode cX7_worthOfSet 25 = .ok (.aload_n 0, 1) := by decide +kernel
theorem dX7_worthOfSet_26 : decode cX7_worthOfSet 26 = .ok (.getfield 24, 3) := by decide +kernel
theorem dX7_worthOfSet_29 : decode cX7_worthOfSet 29 = .ok (.getfield 86, 3) := by decide +kernel
theorem dX7_worthOfSet_32 : decode cX7_worthOfSet 32 = .ok (.iload_n 3, 1) := by decide +kernel
theorem dX7_worthOfSet_33 : decode cX7_worthOfSet 33 = .ok (.iaload, 1) := by decide +kernel
theorem dX7_worthOfSet_34 : decode cX7_worthOfSet 34 = .ok (.iadd, 1) := by decide +kernel
theorem dX7_worthOfSet_35 : decode cX7_worthOfSet 35 = .ok (.istore_n 2, 1) := by decide +kernel
theorem dX7_worthOfSet_36 : decode cX7_worthOfSet 36 = .ok (.iinc 3 1, 3) := by decide +kernel
theorem dX7_worthOfSet_39 : decode cX7_worthOfSet 39 = .ok (.goto (-35), 3) := by decide +kernel
theorem dX7_worthOfSet_42 : decode cX7_worthOfSet 42 = .ok (.iload_n 2, 1) := by decide +kernel
theorem dX7_worthOfSet_43 : decode cX7_worthOfSet 43 = .ok (.ireturn, 1) := by decide +kernel
theorem dX7_cheapestSet_0 : decode cX7_cheapestSet 0 = .ok (.iconst 0, 1) := by decide +kernel
theorem dX7_cheapestSet_1 : decode cX7_cheapestSet 1 = .ok (.istore_n 3, 1) := by decide +kernel
theorem dX7_cheapestSet_2 : decode cX7_cheapestSet 2 = .ok (.iconst 0, 1) := by decide +kernel
theorem dX7_cheapestSet_3 : decode cX7_cheapestSet 3 = .ok (.istore 4, 2) := by decide +kernel
theorem dX7_cheapestSet_5 : decode cX7_cheapestSet 5 = .ok (.iload 4, 2) := by decide +kernel
theorem dX7_cheapestSet_7 : decode cX7_cheapestSet 7 = .ok (.aload_n 0, 1) := by decide +kernel
theorem dX7_cheapestSet_8 : decode cX7_cheapestSet 8 = .ok (.getfield 24, 3) := by decide +kernel
theorem dX7_cheapestSet_11 : decode cX7_cheapestSet 11 = .ok (.getfield 47, 3) := by decide +kernel
theorem dX7_cheapestSet_14 : decode cX7_cheapestSet 14 = .ok (.if_icmp .ge 26, 3) := by decide +kernel
theorem dX7_cheapestSet_17 : decode cX7_cheapestSet 17 = .ok (.aload_n 0, 1) := by decide +kernel
theorem dX7_cheapestSet_18 : decode cX7_cheapestSet 18 = .ok (.iload_n 1, 1) := by decide +kernel
theorem dX7_cheapestSet_19 : decode cX7_cheapestSet 19 = .ok (.iload 4, 2) := by decide +kernel
theorem dX7_cheapestSet_21 : decode cX7_cheapestSet 21 = .ok (.invokevirtual 116, 3) := by decide +kernel
theorem dX7_cheapestSet_24 : decode cX7_cheapestSet 24 = .ok (.ifCond .eq 10, 3) := by decide +kernel
theorem dX7_cheapestSet_27 : decode cX7_cheapestSet 27 = .ok (.iload_n 3, 1) := by decide +kernel
theorem dX7_cheapestSet_28 : decode cX7_cheapestSet 28 = .ok (.iconst 1, 1) := by decide +kernel
theorem dX7_cheapestSet_29 : decode cX7_cheapestSet 29 = .ok (.iload 4, 2) := by decide +kernel
theorem dX7_cheapestSet_31 : decode cX7_cheapestSet 31 = .ok (.ishl, 1) := by decide +kernel
theorem dX7_cheapestSet_32 : decode cX7_cheapestSet 32 = .ok (.ior, 1) := by decide +kernel
theorem dX7_cheapestSet_33 : decode cX7_cheapestSet 33 = .ok (.istore_n 3, 1) := by decide +kernel
theorem dX7_cheapestSet_34 : decode cX7_cheapestSet 34 = .ok (.iinc 4 1, 3) := by decide +kernel
theorem dX7_cheapestSet_37 : decode cX7_cheapestSet 37 = .ok (.goto (-32), 3) := by decide +kernel
theorem dX7_cheapestSet_40 : decode cX7_cheapestSet 40 = .ok (.aload_n 0, 1) := by decide +kernel
theorem dX7_cheapestSet_41 : decode cX7_cheapestSet 41 = .ok (.iload_n 1, 1) := by decide +kernel
theorem dX7_cheapestSet_42 : decode cX7_cheapestSet 42 = .ok (.invokevirtual 119, 3) := by decide +kernel
theorem dX7_cheapestSet_45 : decode cX7_cheapestSet 45 = .ok (.istore 4, 2) := by decide +kernel
theorem dX7_cheapestSet_47 : decode cX7_cheapestSet 47 = .ok (.iconst (-1), 1) := by decide +kernel
theorem dX7_cheapestSet_48 : decode cX7_cheapestSet 48 = .ok (.istore 5, 2) := by decide +kernel
theorem dX7_cheapestSet_50 : decode cX7_cheapestSet 50 = .ok (.ldc 122, 2) := by decide +kernel
theorem dX7_cheapestSet_52 : decode cX7_cheapestSet 52 = .ok (.istore 6, 2) := by decide +kernel
theorem dX7_cheapestSet_54 : decode cX7_cheapestSet 54 = .ok (.iconst 0, 1) := by decide +kernel
theorem dX7_cheapestSet_55 : decode cX7_cheapestSet 55 = .ok (.istore 7, 2) := by decide +kernel
theorem dX7_cheapestSet_57 : decode cX7_cheapestSet 57 = .ok (.iload 7, 2) := by decide +kernel
theorem dX7_cheapestSet_59 : decode cX7_cheapestSet 59 = .ok (.bipush 16, 2) := by decide +kernel
theorem dX7_cheapestSet_61 : decode cX7_cheapestSet 61 = .ok (.if_icmp .ge 68, 3) := by decide +kernel
theorem dX7_cheapestSet_64 : decode cX7_cheapestSet 64 = .ok (.iload 7, 2) := by decide +kernel
theorem dX7_cheapestSet_66 : decode cX7_cheapestSet 66 = .ok (.iload_n 3, 1) := by decide +kernel
theorem dX7_cheapestSet_67 : decode cX7_cheapestSet 67 = .ok (.iconst (-1), 1) := by decide +kernel
theorem dX7_cheapestSet_68 : decode cX7_cheapestSet 68 = .ok (.ixor, 1) := by decide +kernel
theorem dX7_cheapestSet_69 : decode cX7_cheapestSet 69 = .ok (.iand, 1) := by decide +kernel
theorem dX7_cheapestSet_70 : decode cX7_cheapestSet 70 = .ok (.ifCond .ne 20, 3) := by decide +kernel
theorem dX7_cheapestSet_73 : decode cX7_cheapestSet 73 = .ok (.iload 4, 2) := by decide +kernel
theorem dX7_cheapestSet_75 : decode cX7_cheapestSet 75 = .ok (.aload_n 0, 1) := by decide +kernel
theorem dX7_cheapestSet_76 : decode cX7_cheapestSet 76 = .ok (.iload 7, 2) := by decide +kernel
theorem dX7_cheapestSet_78 : decode cX7_cheapestSet 78 = .ok (.invokevirtual 123, 3) := by decide +kernel
theorem dX7_cheapestSet_81 : decode cX7_cheapestSet 81 = .ok (.iadd, 1) := by decide +kernel
theorem dX7_cheapestSet_82 : decode cX7_cheapestSet 82 = .ok (.iload_n 2, 1) := by decide +kernel
theorem dX7_cheapestSet_83 : decode cX7_cheapestSet 83 = .ok (.if_icmp .lt 7, 3) := by decide +kernel
theorem dX7_cheapestSet_86 : decode cX7_cheapestSet 86 = .ok (.iconst 1, 1) := by decide +kernel
theorem dX7_cheapestSet_87 : decode cX7_cheapestSet 87 = .ok (.goto 4, 3) := by decide +kernel
theorem dX7_cheapestSet_90 : decode cX7_cheapestSet 90 = .ok (.iconst 0, 1) := by decide +kernel
theorem dX7_cheapestSet_91 : decode cX7_cheapestSet 91 = .ok (.istore 8, 2) := by decide +kernel
theorem dX7_cheapestSet_93 : decode cX7_cheapestSet 93 = .ok (.iload 8, 2) := by decide +kernel
theorem dX7_cheapestSet_95 : decode cX7_cheapestSet 95 = .ok (.ifCond .eq 28, 3) := by decide +kernel
theorem dX7_cheapestSet_98 : decode cX7_cheapestSet 98 = .ok (.aload_n 0, 1) := by decide +kernel
theorem dX7_cheapestSet_99 : decode cX7_cheapestSet 99 = .ok (.iload_n 1, 1) := by decide +kernel
theorem dX7_cheapestSet_100 : decode cX7_cheapestSet 100 = .ok (.iload 7, 2) := by decide +kernel
theorem dX7_cheapestSet_102 : decode cX7_cheapestSet 102 = .ok (.invokevirtual 126, 3) := by decide +kernel
theorem dX7_cheapestSet_105 : decode cX7_cheapestSet 105 = .ok (.iload 6, 2) := by decide +kernel
theorem dX7_cheapestSet_107 : decode cX7_cheapestSet 107 = .ok (.if_icmp .ge 16, 3) := by decide +kernel
theorem dX7_cheapestSet_110 : decode cX7_cheapestSet 110 = .ok (.iload 7, 2) := by decide +kernel
theorem dX7_cheapestSet_112 : decode cX7_cheapestSet 112 = .ok (.istore 5, 2) := by decide +kernel
theorem dX7_cheapestSet_114 : decode cX7_cheapestSet 114 = .ok (.aload_n 0, 1) := by decide +kernel
theorem dX7_cheapestSet_115 : decode cX7_cheapestSet 115 = .ok (.iload_n 1, 1) := by decide +kernel
theorem dX7_cheapestSet_116 : decode cX7_cheapestSet 116 = .ok (.iload 7, 2) := by decide +kernel
theorem dX7_cheapestSet_118 : decode cX7_cheapestSet 118 = .ok (.invokevirtual 126, 3) := by decide +kernel
theorem dX7_cheapestSet_121 : decode cX7_cheapestSet 121 = .ok (.istore 6, 2) := by decide +kernel
theorem dX7_cheapestSet_123 : decode cX7_cheapestSet 123 = .ok (.iinc 7 1, 3) := by decide +kernel
theorem dX7_cheapestSet_126 : decode cX7_cheapestSet 126 = .ok (.goto (-69), 3) := by decide +kernel
theorem dX7_cheapestSet_129 : decode cX7_cheapestSet 129 = .ok (.iload 5, 2) := by decide +kernel
theorem dX7_cheapestSet_131 : decode cX7_cheapestSet 131 = .ok (.ireturn, 1) := by decide +kernel
theorem dX8_init_0 : decode cX8_init 0 = .ok (.aload_n 0, 1) := by decide +kernel
theorem dX8_init_1 : decode cX8_init 1 = .ok (.invokespecial 3, 3) := by decide +kernel
theorem dX8_init_4 : decode cX8_init 4 = .ok (.aload_n 0, 1) := by decide +kernel
theorem dX8_init_5 : decode cX8_init 5 = .ok (.iconst 4, 1) := by decide +kernel
theorem dX8_init_6 : decode cX8_init 6 = .ok (.newarray .int, 2) := by decide +kernel
theorem dX8_init_8 : decode cX8_init 8 = .ok (.putfield 9, 3) := by decide +kernel
theorem dX8_init_11 : decode cX8_init 11 = .ok (.aload_n 0, 1) := by decide +kernel
theorem dX8_init_12 : decode cX8_init 12 = .ok (.iconst 4, 1) := by decide +kernel
theorem dX8_init_13 : decode cX8_init 13 = .ok (.newarray .int, 2) := by decide +kernel
theorem dX8_init_15 : decode cX8_init 15 = .ok (.putfield 15, 3) := by decide +kernel
theorem dX8_init_18 : decode cX8_init 18 = .ok (.aload_n 0, 1) := by decide +kernel
theorem dX8_init_19 : decode cX8_init 19 = .ok (.iconst 4, 1) := by decide +kernel
theorem dX8_init_20 : decode cX8_init 20 = .ok (.newarray .int, 2) := by decide +kernel
theorem dX8_init_22 : decode cX8_init 22 = .ok (.putfield 18, 3) := by decide +kernel
theorem dX8_init_25 : decode cX8_init 25 = .ok (.return_, 1) := by decide +kernel
theorem dX8_clear_0 : decode cX8_clear 0 = .ok (.aload_n 0, 1) := by decide +kernel
theorem dX8_clear_1 : decode cX8_clear 1 = .ok (.iconst 0, 1) := by decide +kernel
theorem dX8_clear_2 : decode cX8_clear 2 = .ok (.putfield 21, 3) := by decide +kernel
theorem dX8_clear_5 : decode cX8_clear 5 = .ok (.aload_n 0, 1) := by decide +kernel
theorem dX8_clear_6 : decode cX8_clear 6 = .ok (.iconst 0, 1) := by decide +kernel
theorem dX8_clear_7 : decode cX8_clear 7 = .ok (.putfield 25, 3) := by decide +kernel
theorem dX8_clear_10 : decode cX8_clear 10 = .ok (.aload_n 0, 1) := by decide +kernel
theorem dX8_clear_11 : decode cX8_clear 11 = .ok (.iconst 0, 1) := by decide +kernel
theorem dX8_clear_12 : decode cX8_clear 12 = .ok (.putfield 29, 3) := by decide +kernel
theorem dX8_clear_15 : decode cX8_clear 15 = .ok (.aload_n 0, 1) := by decide +kernel
theorem dX8_clear_16 : decode cX8_clear 16 = .ok (.iconst 0, 1) := by decide +kernel
theorem dX8_clear_17 : decode cX8_clear 17 = .ok (.putfield 32, 3) := by decide +kernel
theorem dX8_clear_20 : decode cX8_clear 20 = .ok (.aload_n 0, 1) := by decide +kernel
theorem dX8_clear_21 : decode cX8_clear 21 = .ok (.iconst 0, 1) := by decide +kernel
theorem dX8_clear_22 : decode cX8_clear 22 = .ok (.putfield 35, 3) := by decide +kernel
theorem dX8_clear_25 : decode cX8_clear 25 = .ok (.aload_n 0, 1) := by decide +kernel
theorem dX8_clear_26 : decode cX8_clear 26 = .ok (.iconst 0, 1) := by decide +kernel
theorem dX8_clear_27 : decode cX8_clear 27 = .ok (.putfield 38, 3) := by decide +kernel
theorem dX8_clear_30 : decode cX8_clear 30 = .ok (.return_, 1) := by decide +kernel
theorem dX8_take_0 : decode cX8_take 0 = .ok (.aload_n 0, 1) := by decide +kernel
theorem dX8_take_1 : decode cX8_take 1 = .ok (.aload_n 1, 1) := by decide +kernel
theorem dX8_take_2 : decode cX8_take 2 = .ok (.getfield 21, 3) := by decide +kernel
theorem dX8_take_5 : decode cX8_take 5 = .ok (.putfield 21, 3) := by decide +kernel
theorem dX8_take_8 : decode cX8_take 8 = .ok (.aload_n 0, 1) := by decide +kernel
theorem dX8_take_9 : decode cX8_take 9 = .ok (.aload_n 1, 1) := by decide +kernel
theorem dX8_take_10 : decode cX8_take 10 = .ok (.getfield 25, 3) := by decide +kernel
theorem dX8_take_13 : decode cX8_take 13 = .ok (.putfield 25, 3) := by decide +kernel
theorem dX8_take_16 : decode cX8_take 16 = .ok (.aload_n 0, 1) := by decide +kernel
theorem dX8_take_17 : decode cX8_take 17 = .ok (.aload_n 1, 1) := by decide +kernel
theorem dX8_take_18 : decode cX8_take 18 = .ok (.getfield 29, 3) := by decide +kernel
theorem dX8_take_21 : decode cX8_take 21 = .ok (.putfield 29, 3) := by decide +kernel
theorem dX8_take_24 : decode cX8_take 24 = .ok (.aload_n 0, 1) := by decide +kernel
theorem dX8_take_25 : decode cX8_take 25 = .ok (.aload_n 1, 1) := by decide +kernel
theorem dX8_take_26 : decode cX8_take 26 = .ok (.getfield 32, 3) := by decide +kernel
theorem dX8_take_29 : decode cX8_take 29 = .ok (.putfield 32, 3) := by decide +kernel
theorem dX8_take_32 : decode cX8_take 32 = .ok (.aload_n 0, 1) := by decide +kernel
theorem dX8_take_33 : decode cX8_take 33 = .ok (.aload_n 1, 1) := by decide +kernel
theorem dX8_take_34 : decode cX8_take 34 = .ok (.getfield 35, 3) := by decide +kernel
theorem dX8_take_37 : decode cX8_take 37 = .ok (.putfield 35, 3) := by decide +kernel
theorem dX8_take_40 : decode cX8_take 40 = .ok (.aload_n 0, 1) := by decide +kernel
theorem dX8_take_41 : decode cX8_take 41 = .ok (.aload_n 1, 1) := by decide +kernel
theorem dX8_take_42 : decode cX8_take 42 = .ok (.getfield 38, 3) := by decide +kernel
theorem dX8_take_45 : decode cX8_take 45 = .ok (.putfield 38, 3) := by decide +kernel
theorem dX8_take_48 : decode cX8_take 48 = .ok (.aload_n 1, 1) := by decide +kernel
theorem dX8_take_49 : decode cX8_take 49 = .ok (.getfield 9, 3) := by decide +kernel
theorem dX8_take_52 : decode cX8_take 52 = .ok (.iconst 0, 1) := by decide +kernel
theorem dX8_take_53 : decode cX8_take 53 = .ok (.aload_n 0, 1) := by decide +kernel
theorem dX8_take_54 : decode cX8_take 54 = .ok (.getfield 9, 3) := by decide +kernel
theorem dX8_take_57 : decode cX8_take 57 = .ok (.iconst 0, 1) := by decide +kernel
theorem dX8_take_58 : decode cX8_take 58 = .ok (.iconst 4, 1) := by decide +kernel
theorem dX8_take_59 : decode cX8_take 59 = .ok (.invokestatic 41, 3) := by decide +kernel
theorem dX8_take_62 : decode cX8_take 62 = .ok (.aload_n 1, 1) := by decide +kernel
theorem dX8_take_63 : decode cX8_take 63 = .ok (.getfield 15, 3) := by decide +kernel
theorem dX8_take_66 : decode cX8_take 66 = .ok (.iconst 0, 1) := by decide +kernel
theorem dX8_take_67 : decode cX8_take 67 = .ok (.aload_n 0, 1) := by decide +kernel
theorem dX8_take_68 : decode cX8_take 68 = .ok (.getfield 15, 3) := by decide +kernel
theorem dX8_take_71 : decode cX8_take 71 = .ok (.iconst 0, 1) := by decide +kernel
theorem dX8_take_72 : decode cX8_take 72 = .ok (.iconst 4, 1) := by decide +kernel
theorem dX8_take_73 : decode cX8_take 73 = .ok (.invokestatic 41, 3) := by decide +kernel
theorem dX8_take_76 : decode cX8_take 76 = .ok (.aload_n 1, 1) := by decide +kernel
theorem dX8_take_77 : decode cX8_take 77 = .ok (.getfield 18, 3) := by decide +kernel
theorem dX8_take_80 : decode cX8_take 80 = .ok (.iconst 0, 1) := by decide +kernel
theorem dX8_take_81 : decode cX8_take 81 = .ok (.aload_n 0, 1) := by decide +kernel
theorem dX8_take_82 : decode cX8_take 82 = .ok (.getfield 18, 3) := by decide +kernel
theorem dX8_take_85 : decode cX8_take 85 = .ok (.iconst 0, 1) := by decide +kernel
theorem dX8_take_86 : decode cX8_take 86 = .ok (.iconst 4, 1) := by decide +kernel
theorem dX8_take_87 : decode cX8_take 87 = .ok (.invokestatic 41, 3) := by decide +kernel
theorem dX8_take_90 : decode cX8_take 90 = .ok (.return_, 1) := by decide +kernel
theorem dX8_hasPerson_0 : decode cX8_hasPerson 0 = .ok (.iload_n 1, 1) := by decide +kernel
theorem dX8_hasPerson_1 : decode cX8_hasPerson 1 = .ok (.ifCond .lt 15, 3) := by decide +kernel
theorem dX8_hasPerson_4 : decode cX8_hasPerson 4 = .ok (.iload_n 1, 1) := by decide +kernel
theorem dX8_hasPerson_5 : decode cX8_hasPerson 5 = .ok (.aload_n 0, 1) := by decide +kernel
theorem dX8_hasPerson_6 : decode cX8_hasPerson 6 = .ok (.getfield 35, 3) := by decide +kernel
theorem dX8_hasPerson_9 : decode cX8_hasPerson 9 = .ok (.if_icmp .ge 7, 3) := by decide +kernel
theorem dX8_hasPerson_12 : decode cX8_hasPerson 12 = .ok (.iconst 1, 1) := by decide +kernel
theorem dX8_hasPerson_13 : decode cX8_hasPerson 13 = .ok (.goto 4, 3) := by decide +kernel
theorem dX8_hasPerson_16 : decode cX8_hasPerson 16 = .ok (.iconst 0, 1) := by decide +kernel
theorem dX8_hasPerson_17 : decode cX8_hasPerson 17 = .ok (.ireturn, 1) := by decide +kernel
theorem dX8_hasCreditor_0 : decode cX8_hasCreditor 0 = .ok (.iload_n 1, 1) := by decide +kernel
theorem dX8_hasCreditor_1 : decode cX8_hasCreditor 1 = .ok (.ifCond .lt 15, 3) := by decide +kernel
theorem dX8_hasCreditor_4 : decode cX8_hasCreditor 4 = .ok (.iload_n 1, 1) := by decide +kernel
theorem dX8_hasCreditor_5 : decode cX8_hasCreditor 5 = .ok (.aload_n 0, 1) := by decide +kernel
theorem dX8_hasCreditor_6 : decode cX8_hasCreditor 6 = .ok (.getfield 32, 3) := by decide +kernel
theorem dX8_hasCreditor_9 : decode cX8_hasCreditor 9 = .ok (.if_icmp .ge 7, 3) := by decide +kernel
theorem dX8_hasCreditor_12 : decode cX8_hasCreditor 12 = .ok (.iconst 1, 1) := by decide +kernel
theorem dX8_hasCreditor_13 : decode cX8_hasCreditor 13 = .ok (.goto 4, 3) := by decide +kernel
theorem dX8_hasCreditor_16 : decode cX8_hasCreditor 16 = .ok (.iconst 0, 1) := by decide +kernel
theorem dX8_hasCreditor_17 : decode cX8_hasCreditor 17 = .ok (.ireturn, 1) := by decide +kernel
theorem dX8_hasBoth_0 : decode cX8_hasBoth 0 = .ok (.aload_n 0, 1) := by decide +kernel
theorem dX8_hasBoth_1 : decode cX8_hasBoth 1 = .ok (.iload_n 1, 1) := by decide +kernel
theorem dX8_hasBoth_2 : decode cX8_hasBoth 2 = .ok (.invokevirtual 47, 3) := by decide +kernel
theorem dX8_hasBoth_5 : decode cX8_hasBoth 5 = .ok (.ifCond .eq 15, 3) := by decide +kernel
theorem dX8_hasBoth_8 : decode cX8_hasBoth 8 = .ok (.aload_n 0, 1) := by decide +kernel
theorem dX8_hasBoth_9 : decode cX8_hasBoth 9 = .ok (.iload_n 2, 1) := by decide +kernel
theorem dX8_hasBoth_10 : decode cX8_hasBoth 10 = .ok (.invokevirtual 51, 3) := by decide +kernel
theorem dX8_hasBoth_13 : decode cX8_hasBoth 13 = .ok (.ifCond .eq 7, 3) := by decide +kernel
theorem dX8_hasBoth_16 : decode cX8_hasBoth 16 = .ok (.iconst 1, 1) := by decide +kernel
theorem dX8_hasBoth_17 : decode cX8_hasBoth 17 = .ok (.goto 4, 3) := by decide +kernel
theorem dX8_hasBoth_20 : decode cX8_hasBoth 20 = .ok (.iconst 0, 1) := by decide +kernel
theorem dX8_hasBoth_21 : decode cX8_hasBoth 21 = .ok (.ireturn, 1) := by decide +kernel
theorem dX8_isGirl_0 : decode cX8_isGirl 0 = .ok (.aload_n 0, 1) := by decide +kernel
theorem dX8_isGirl_1 : decode cX8_isGirl 1 = .ok (.iload_n 1, 1) := by decide +kernel
theorem dX8_isGirl_2 : decode cX8_isGirl 2 = .ok (.invokevirtual 47, 3) := by decide +kernel
theorem dX8_isGirl_5 : decode cX8_isGirl 5 = .ok (.ifCond .eq 19, 3) := by decide +kernel
theorem dX8_isGirl_8 : decode cX8_isGirl 8 = .ok (.aload_n 0, 1) := by decide +kernel
theorem dX8_isGirl_9 : decode cX8_isGirl 9 = .ok (.getfield 38, 3) := by decide +kernel
theorem dX8_isGirl_12 : decode cX8_isGirl 12 = .ok (.iload_n 1, 1) := by decide +kernel
theorem dX8_isGirl_13 : decode cX8_isGirl 13 = .ok (.ishr, 1) := by decide +kernel
theorem dX8_isGirl_14 : decode cX8_isGirl 14 = .ok (.iconst 1, 1) := by decide +kernel
theorem dX8_isGirl_15 : decode cX8_isGirl 15 = .ok (.iand, 1) := by decide +kernel
theorem dX8_isGirl_16 : decode cX8_isGirl 16 = .ok (.iconst 1, 1) := by decide +kernel
theorem dX8_isGirl_17 : decode cX8_isGirl 17 = .ok (.if_icmp .ne 7, 3) := by decide +kernel
theorem dX8_isGirl_20 : decode cX8_isGirl 20 = .ok (.iconst 1, 1) := by decide +kernel
theorem dX8_isGirl_21 : decode cX8_isGirl 21 = .ok (.goto 4, 3) := by decide +kernel
theorem dX8_isGirl_24 : decode cX8_isGirl 24 = .ok (.iconst 0, 1) := by decide +kernel
theorem dX8_isGirl_25 : decode cX8_isGirl 25 = .ok (.ireturn, 1) := by decide +kernel
theorem dX8_isMan_0 : decode cX8_isMan 0 = .ok (.aload_n 0, 1) := by decide +kernel
theorem dX8_isMan_1 : decode cX8_isMan 1 = .ok (.iload_n 1, 1) := by decide +kernel
theorem dX8_isMan_2 : decode cX8_isMan 2 = .ok (.invokevirtual 47, 3) := by decide +kernel
theorem dX8_isMan_5 : decode cX8_isMan 5 = .ok (.ifCond .eq 18, 3) := by decide +kernel
theorem dX8_isMan_8 : decode cX8_isMan 8 = .ok (.aload_n 0, 1) := by decide +kernel
theorem dX8_isMan_9 : decode cX8_isMan 9 = .ok (.getfield 38, 3) := by decide +kernel
theorem dX8_isMan_12 : decode cX8_isMan 12 = .ok (.iload_n 1, 1) := by decide +kernel
theorem dX8_isMan_13 : decode cX8_isMan 13 = .ok (.ishr, 1) := by decide +kernel
theorem dX8_isMan_14 : decode cX8_isMan 14 = .ok (.iconst 1, 1) := by decide +kernel
theorem dX8_isMan_15 : decode cX8_isMan 15 = .ok (.iand, 1) := by decide +kernel
theorem dX8_isMan_16 : decode cX8_isMan 16 = .ok (.ifCond .ne 7, 3) := by decide +kernel
theorem dX8_isMan_19 : decode cX8_isMan 19 = .ok (.iconst 1, 1) := by decide +kernel
theorem dX8_isMan_20 : decode cX8_isMan 20 = .ok (.goto 4, 3) := by decide +kernel
theorem dX8_isMan_23 : decode cX8_isMan 23 = .ok (.iconst 0, 1) := by decide +kernel
theorem dX8_isMan_24 : decode cX8_isMan 24 = .ok (.ireturn, 1) := by decide +kernel
theorem dX8_grown_0 : decode cX8_grown 0 = .ok (.sipush 9999, 3) := by decide +kernel
theorem dX8_grown_3 : decode cX8_grown 3 = .ok (.iload_n 1, 1) := by decide +kernel
theorem dX8_grown_4 : decode cX8_grown 4 = .ok (.iload_n 1, 1) := by decide +kernel
theorem dX8_grown_5 : decode cX8_grown 5 = .ok (.aload_n 0, 1) := by decide +kernel
theorem dX8_grown_6 : decode cX8_grown 6 = .ok (.getfield 25, 3) := by decide +kernel
theorem dX8_grown_9 : decode cX8_grown 9 = .ok (.imul, 1) := by decide +kernel
theorem dX8_grown_10 : decode cX8_grown 10 = .ok (.bipush 100, 2) := by decide +kernel
theorem dX8_grown_12 : decode cX8_grown 12 = .ok (.idiv, 1) := by decide +kernel
theorem dX8_grown_13 : decode cX8_grown 13 = .ok (.iadd, 1) := by decide +kernel
theorem dX8_grown_14 : decode cX8_grown 14 = .ok (.invokestatic 54, 3) := by decide +kernel
theorem dX8_grown_17 : decode cX8_grown 17 = .ok (.ireturn, 1) := by decide +kernel
theorem dX8_within_0 : decode cX8_within 0 = .ok (.iload_n 2, 1) := by decide +kernel
theorem dX8_within_1 : decode cX8_within 1 = .ok (.aload_n 0, 1) := by decide +kernel
theorem dX8_within_2 : decode cX8_within 2 = .ok (.getfield 9, 3) := by decide +kernel
theorem dX8_within_5 : decode cX8_within 5 = .ok (.iload_n 1, 1) := by decide +kernel
theorem dX8_within_6 : decode cX8_within 6 = .ok (.iaload, 1) := by decide +kernel
theorem dX8_within_7 : decode cX8_within 7 = .ok (.if_icmp .lt 17, 3) := by decide +kernel
theorem dX8_within_10 : decode cX8_within 10 = .ok (.iload_n 2, 1) := by decide +kernel
theorem dX8_within_11 : decode cX8_within 11 = .ok (.aload_n 0, 1) := by decide +kernel
theorem dX8_within_12 : decode cX8_within 12 = .ok (.getfield 15, 3) := by decide +kernel
theorem dX8_within_15 : decode cX8_within 15 = .ok (.iload_n 1, 1) := by decide +kernel
theorem dX8_within_16 : decode cX8_within 16 = .ok (.iaload, 1) := by decide +kernel
theorem dX8_within_17 : decode cX8_within 17 = .ok (.if_icmp .gt 7, 3) := by decide +kernel
theorem dX8_within_20 : decode cX8_within 20 = .ok (.iconst 1, 1) := by decide +kernel
theorem dX8_within_21 : decode cX8_within 21 = .ok (.goto 4, 3) := by decide +kernel
theorem dX8_within_24 : decode cX8_within 24 = .ok (.iconst 0, 1) := by decide +kernel
theorem dX8_within_25 : decode cX8_within 25 = .ok (.ireturn, 1) := by decide +kernel
theorem dX9_init_0 : decode cX9_init 0 = .ok (.aload_n 0, 1) := by decide +kernel
theorem dX9_init_1 : decode cX9_init 1 = .ok (.invokespecial 1, 3) := by decide +kernel
theorem dX9_init_4 : decode cX9_init 4 = .ok (.aload_n 0, 1) := by decide +kernel
theorem dX9_init_5 : decode cX9_init 5 = .ok (.new 7, 3) := by decide +kernel
theorem dX9_init_8 : decode cX9_init 8 = .ok (.dup, 1) := by decide +kernel
theorem dX9_init_9 : decode cX9_init 9 = .ok (.invokespecial 9, 3) := by decide +kernel
theorem dX9_init_12 : decode cX9_init 12 = .ok (.putfield 10, 3) := by decide +kernel
theorem dX9_init_15 : decode cX9_init 15 = .ok (.aload_n 0, 1) := by decide +kernel
theorem dX9_init_16 : decode cX9_init 16 = .ok (.new 16, 3) := by decide +kernel
theorem dX9_init_19 : decode cX9_init 19 = .ok (.dup, 1) := by decide +kernel
theorem dX9_init_20 : decode cX9_init 20 = .ok (.invokespecial 18, 3) := by decide +kernel
theorem dX9_init_23 : decode cX9_init 23 = .ok (.putfield 19, 3) := by decide +kernel
theorem dX9_init_26 : decode cX9_init 26 = .ok (.aload_n 0, 1) := by decide +kernel
theorem dX9_init_27 : decode cX9_init 27 = .ok (.new 23, 3) := by decide +kernel
theorem dX9_init_30 : decode cX9_init 30 = .ok (.dup, 1) := by decide +kernel
theorem dX9_init_31 : decode cX9_init 31 = .ok (.aload_n 0, 1) := by decide +kernel
theorem dX9_init_32 : decode cX9_init 32 = .ok (.getfield 19, 3) := by decide +kernel
theorem dX9_init_35 : decode cX9_init 35 = .ok (.invokespecial 25, 3) := by decide +kernel
theorem dX9_init_38 : decode cX9_init 38 = .ok (.putfield 28, 3) := by decide +kernel
theorem dX9_init_41 : decode cX9_init 41 = .ok (.aload_n 0, 1) := by decide +kernel
theorem dX9_init_42 : decode cX9_init 42 = .ok (.new 23, 3) := by decide +kernel
theorem dX9_init_45 : decode cX9_init 45 = .ok (.dup, 1) := by decide +kernel
theorem dX9_init_46 : decode cX9_init 46 = .ok (.aload_n 0, 1) := by decide +kernel
theorem dX9_init_47 : decode cX9_init 47 = .ok (.getfield 19, 3) := by decide +kernel
theorem dX9_init_50 : decode cX9_init 50 = .ok (.invokespecial 25, 3) := by decide +kernel
theorem dX9_init_53 : decode cX9_init 53 = .ok (.putfield 32, 3) := by decide +kernel
theorem dX9_init_56 : decode cX9_init 56 = .ok (.aload_n 0, 1) := by decide +kernel
theorem dX9_init_57 : decode cX9_init 57 = .ok (.new 35, 3) := by decide +kernel
theorem dX9_init_60 : decode cX9_init 60 = .ok (.dup, 1) := by decide +kernel
theorem dX9_init_61 : decode cX9_init 61 = .ok (.aload_n 0, 1) := by decide +kernel
theorem dX9_init_62 : decode cX9_init 62 = .ok (.getfield 19, 3) := by decide +kernel
theorem dX9_init_65 : decode cX9_init 65 = .ok (.invokespecial 37, 3) := by decide +kernel
theorem dX9_init_68 : decode cX9_init 68 = .ok (.putfield 38, 3) := by decide +kernel
theorem dX9_init_71 : decode cX9_init 71 = .ok (.aload_n 0, 1) := by decide +kernel
theorem dX9_init_72 : decode cX9_init 72 = .ok (.new 42, 3) := by decide +kernel
theorem dX9_init_75 : decode cX9_init 75 = .ok (.dup, 1) := by decide +kernel
theorem dX9_init_76 : decode cX9_init 76 = .ok (.invokespecial 44, 3) := by decide +kernel
theorem dX9_init_79 : decode cX9_init 79 = .ok (.putfield 45, 3) := by decide +kernel
theorem dX9_init_82 : decode cX9_init 82 = .ok (.aload_n 0, 1) := by decide +kernel
theorem dX9_init_83 : decode cX9_init 83 = .ok (.new 49, 3) := by decide +kernel
theorem dX9_init_86 : decode cX9_init 86 = .ok (.dup, 1) := by decide +kernel
theorem dX9_init_87 : decode cX9_init 87 = .ok (.invokespecial 51, 3) := by decide +kernel
theorem dX9_init_90 : decode cX9_init 90 = .ok (.putfield 52, 3) := by decide +kernel
theorem dX9_init_93 : decode cX9_init 93 = .ok (.aload_n 0, 1) := by decide +kernel
theorem dX9_init_94 : decode cX9_init 94 = .ok (.new 56, 3) := by decide +kernel
theorem dX9_init_97 : decode cX9_init 97 = .ok (.dup, 1) := by decide +kernel
theorem dX9_init_98 : decode cX9_init 98 = .ok (.invokespecial 58, 3) := by decide +kernel
theorem dX9_init_101 : decode cX9_init 101 = .ok (.putfield 59, 3) := by decide +kernel
theorem dX9_init_104 : decode cX9_init 104 = .ok (.aload_n 0, 1) := by decide +kernel
theorem dX9_init_105 : decode cX9_init 105 = .ok (.new 63, 3) := by decide +kernel
theorem dX9_init_108 : decode cX9_init 108 = .ok (.dup, 1) := by decide +kernel
theorem dX9_init_109 : decode cX9_init 109 = .ok (.invokespecial 65, 3) := by decide +kernel
theorem dX9_init_112 : decode cX9_init 112 = .ok (.putfield 66, 3) := by decide +kernel
theorem dX9_init_115 : decode cX9_init 115 = .ok (.aload_n 0, 1) := by decide +kernel
theorem dX9_init_116 : decode cX9_init 116 = .ok (.iconst 2, 1) := by decide +kernel
theorem dX9_init_117 : decode cX9_init 117 = .ok (.anewarray 70, 3) := by decide +kernel
theorem dX9_init_120 : decode cX9_init 120 = .ok (.putfield 72, 3) := by decide +kernel
theorem dX9_init_123 : decode cX9_init 123 = .ok (.iconst 0, 1) := by decide +kernel
theorem dX9_init_124 : decode cX9_init 124 = .ok (.istore_n 1, 1) := by decide +kernel
theorem dX9_init_125 : decode cX9_init 125 = .ok (.iload_n 1, 1) := by decide +kernel
theorem dX9_init_126 : decode cX9_init 126 = .ok (.iconst 2, 1) := by decide +kernel
theorem dX9_init_127 : decode cX9_init 127 = .ok (.if_icmp .ge 26, 3) := by decide +kernel
theorem dX9_init_130 : decode cX9_init 130 = .ok (.aload_n 0, 1) := by decide +kernel
theorem dX9_init_131 : decode cX9_init 131 = .ok (.getfield 72, 3) := by decide +kernel
theorem dX9_init_134 : decode cX9_init 134 = .ok (.iload_n 1, 1) := by decide +kernel
theorem dX9_init_135 : decode cX9_init 135 = .ok (.new 70, 3) := by decide +kernel
theorem dX9_init_138 : decode cX9_init 138 = .ok (.dup, 1) := by decide +kernel
theorem dX9_init_139 : decode cX9_init 139 = .ok (.aload_n 0, 1) := by decide +kernel
theorem dX9_init_140 : decode cX9_init 140 = .ok (.getfield 19, 3) := by decide +kernel
theorem dX9_init_143 : decode cX9_init 143 = .ok (.invokespecial 76, 3) := by decide +kernel
theorem dX9_init_146 : decode cX9_init 146 = .ok (.aastore, 1) := by decide +kernel
theorem dX9_init_147 : decode cX9_init 147 = .ok (.iinc 1 1, 3) := by decide +kernel
theorem dX9_init_150 : decode cX9_init 150 = .ok (.goto (-25), 3) := by decide +kernel
theorem dX9_init_153 : decode cX9_init 153 = .ok (.aload_n 0, 1) := by decide +kernel
theorem dX9_init_154 : decode cX9_init 154 = .ok (.iconst 0, 1) := by decide +kernel
theorem dX9_init_155 : decode cX9_init 155 = .ok (.putfield 77, 3) := by decide +kernel
theorem dX9_init_158 : decode cX9_init 158 = .ok (.return_, 1) := by decide +kernel
theorem dX9_feed_0 : decode cX9_feed 0 = .ok (.iload_n 1, 1) := by decide +kernel
theorem dX9_feed_1 : decode cX9_feed 1 = .ok (.ifCond .lt 10, 3) := by decide +kernel
theorem dX9_feed_4 : decode cX9_feed 4 = .ok (.iload_n 1, 1) := by decide +kernel
theorem dX9_feed_5 : decode cX9_feed 5 = .ok (.sipush 255, 3) := by decide +kernel
theorem dX9_feed_8 : decode cX9_feed 8 = .ok (.if_icmp .le 6, 3) := by decide +kernel
theorem dX9_feed_11 : decode cX9_feed 11 = .ok (.ldc 81, 2) := by decide +kernel
theorem dX9_feed_13 : decode cX9_feed 13 = .ok (.ireturn, 1) := by decide +kernel
theorem dX9_feed_14 : decode cX9_feed 14 = .ok (.aload_n 0, 1) := by decide +kernel
theorem dX9_feed_15 : decode cX9_feed 15 = .ok (.getfield 10, 3) := by decide +kernel
theorem dX9_feed_18 : decode cX9_feed 18 = .ok (.iload_n 1, 1) := by decide +kernel
theorem dX9_feed_19 : decode cX9_feed 19 = .ok (.invokevirtual 82, 3) := by decide +kernel
theorem dX9_feed_22 : decode cX9_feed 22 = .ok (.ifCond .eq 13, 3) := by decide +kernel
theorem dX9_feed_25 : decode cX9_feed 25 = .ok (.aload_n 0, 1) := by decide +kernel
theorem dX9_feed_26 : decode cX9_feed 26 = .ok (.getfield 10, 3) := by decide +kernel
theorem dX9_feed_29 : decode cX9_feed 29 = .ok (.getfield 86, 3) := by decide +kernel
theorem dX9_feed_32 : decode cX9_feed 32 = .ok (.goto 5, 3) := by decide +kernel
theorem dX9_feed_35 : decode cX9_feed 35 = .ok (.ldc 89, 2) := by decide +kernel
theorem dX9_feed_37 : decode cX9_feed 37 = .ok (.ireturn, 1) := by decide +kernel
theorem dX9_town_0 : decode cX9_town 0 = .ok (.aload_n 0, 1) := by decide +kernel
theorem dX9_town_1 : decode cX9_town 1 = .ok (.getfield 10, 3) := by decide +kernel
theorem dX9_town_4 : decode cX9_town 4 = .ok (.invokevirtual 90, 3) := by decide +kernel
theorem dX9_town_7 : decode cX9_town 7 = .ok (.aload_n 0, 1) := by decide +kernel
theorem dX9_town_8 : decode cX9_town 8 = .ok (.getfield 10, 3) := by decide +kernel
theorem dX9_town_11 : decode cX9_town 11 = .ok (.getfield 93, 3) := by decide +kernel
theorem dX9_town_14 : decode cX9_town 14 = .ok (.ifCond .eq 14, 3) := by decide +kernel
theorem dX9_town_17 : decode cX9_town 17 = .ok (.bipush (-10), 2) := by decide +kernel
theorem dX9_town_19 : decode cX9_town 19 = .ok (.aload_n 0, 1) := by decide +kernel
theorem dX9_town_20 : decode cX9_town 20 = .ok (.getfield 10, 3) := by decide +kernel
theorem dX9_town_23 : decode cX9_town 23 = .ok (.getfield 93, 3) := by decide +kernel
theorem dX9_town_26 : decode cX9_town 26 = .ok (.isub, 1) := by decide +kernel
theorem dX9_town_27 : decode cX9_town 27 = .ok (.ireturn, 1) := by decide +kernel
theorem dX9_town_28 : decode cX9_town 28 = .ok (.aload_n 0, 1) := by decide +kernel
theorem dX9_town_29 : decode cX9_town 29 = .ok (.getfield 19, 3) := by decide +kernel
theorem dX9_town_32 : decode cX9_town 32 = .ok (.aload_n 0, 1) := by decide +kernel
theorem dX9_town_33 : decode cX9_town 33 = .ok (.getfield 10, 3) := by decide +kernel
theorem dX9_town_36 : decode cX9_town 36 = .ok (.getfield 96, 3) := by decide +kernel
theorem dX9_town_39 : decode cX9_town 39 = .ok (.invokevirtual 97, 3) := by decide +kernel
theorem dX9_town_42 : decode cX9_town 42 = .ok (.aload_n 0, 1) := by decide +kernel
theorem dX9_town_43 : decode cX9_town 43 = .ok (.getfield 28, 3) := by decide +kernel
theorem dX9_town_46 : decode cX9_town 46 = .ok (.aload_n 0, 1) := by decide +kernel
theorem dX9_town_47 : decode cX9_town 47 = .ok (.getfield 10, 3) := by decide +kernel
theorem dX9_town_50 : decode cX9_town 50 = .ok (.getfield 100, 3) := by decide +kernel
theorem dX9_town_53 : decode cX9_town 53 = .ok (.invokevirtual 103, 3) := by decide +kernel
theorem dX9_town_56 : decode cX9_town 56 = .ok (.aload_n 0, 1) := by decide +kernel
theorem dX9_town_57 : decode cX9_town 57 = .ok (.getfield 38, 3) := by decide +kernel
theorem dX9_town_60 : decode cX9_town 60 = .ok (.invokevirtual 106, 3) := by decide +kernel
theorem dX9_town_63 : decode cX9_town 63 = .ok (.aload_n 0, 1) := by decide +kernel
theorem dX9_town_64 : decode cX9_town 64 = .ok (.getfield 59, 3) := by decide +kernel
theorem dX9_town_67 : decode cX9_town 67 = .ok (.iconst 0, 1) := by decide +kernel
theorem dX9_town_68 : decode cX9_town 68 = .ok (.putfield 109, 3) := by decide +kernel
theorem dX9_town_71 : decode cX9_town 71 = .ok (.aload_n 0, 1) := by decide +kernel
theorem dX9_town_72 : decode cX9_town 72 = .ok (.getfield 66, 3) := by decide +kernel
theorem dX9_town_75 : decode cX9_town 75 = .ok (.iconst 0, 1) := by decide +kernel
theorem dX9_town_76 : decode cX9_town 76 = .ok (.putfield 112, 3) := by decide +kernel
theorem dX9_town_79 : decode cX9_town 79 = .ok (.iconst 0, 1) := by decide +kernel
theorem dX9_town_80 : decode cX9_town 80 = .ok (.istore_n 1, 1) := by decide +kernel
theorem dX9_town_81 : decode cX9_town 81 = .ok (.iload_n 1, 1) := by decide +kernel
theorem dX9_town_82 : decode cX9_town 82 = .ok (.iconst 2, 1) := by decide +kernel
theorem dX9_town_83 : decode cX9_town 83 = .ok (.if_icmp .ge 19, 3) := by decide +kernel
theorem dX9_town_86 : decode cX9_town 86 = .ok (.aload_n 0, 1) := by decide +kernel
theorem dX9_town_87 : decode cX9_town 87 = .ok (.getfield 72, 3) := by decide +kernel
theorem dX9_town_90 : decode cX9_town 90 = .ok (.iload_n 1, 1) := by decide +kernel
theorem dX9_town_91 : decode cX9_town 91 = .ok (.aaload, 1) := by decide +kernel
theorem dX9_town_92 : decode cX9_town 92 = .ok (.iconst 0, 1) := by decide +kernel
theorem dX9_town_93 : decode cX9_town 93 = .ok (.putfield 113, 3) := by decide +kernel
theorem dX9_town_96 : decode cX9_town 96 = .ok (.iinc 1 1, 3) := by decide +kernel
theorem dX9_town_99 : decode cX9_town 99 = .ok (.goto (-18), 3) := by decide +kernel
theorem dX9_town_102 : decode cX9_town 102 = .ok (.aload_n 0, 1) := by decide +kernel
theorem dX9_town_103 : decode cX9_town 103 = .ok (.getfield 19, 3) := by decide +kernel
theorem dX9_town_106 : decode cX9_town 106 = .ok (.getfield 117, 3) := by decide +kernel
theorem dX9_town_109 : decode cX9_town 109 = .ok (.ireturn, 1) := by decide +kernel
theorem dX9_fault_0 : decode cX9_fault 0 = .ok (.aload_n 0, 1) := by decide +kernel
theorem dX9_fault_1 : decode cX9_fault 1 = .ok (.getfield 10, 3) := by decide +kernel
theorem dX9_fault_4 : decode cX9_fault 4 = .ok (.getfield 120, 3) := by decide +kernel
theorem dX9_fault_7 : decode cX9_fault 7 = .ok (.ireturn, 1) := by decide +kernel
theorem dX9_told_0 : decode cX9_told 0 = .ok (.iload_n 1, 1) := by decide +kernel
theorem dX9_told_1 : decode cX9_told 1 = .ok (.tableswitch 191 0 13 #[71, 87, 95, 103, 111, 119, 127, 135, 143, 151, 159, 167, 175, 183], 71) := by decide +kernel
theorem dX9_told_72 : decode cX9_told 72 = .ok (.aload_n 0, 1) := by decide +kernel
theorem dX9_told_73 : decode cX9_told 73 = .ok (.getfield 19, 3) := by decide +kernel
theorem dX9_told_76 : decode cX9_told 76 = .ok (.getfield 123, 3) := by decide +kernel
theorem dX9_told_79 : decode cX9_told 79 = .ok (.ifCond .eq 7, 3) := by decide +kernel
theorem dX9_told_82 : decode cX9_told 82 = .ok (.iconst 1, 1) := by decide +kernel
theorem dX9_told_83 : decode cX9_told 83 = .ok (.goto 4, 3) := by decide +kernel
theorem dX9_told_86 : decode cX9_told 86 = .ok (.iconst 0, 1) := by decide +kernel
theorem dX9_told_87 : decode cX9_told 87 = .ok (.ireturn, 1) := by decide +kernel
theorem dX9_told_88 : decode cX9_told 88 = .ok (.aload_n 0, 1) := by decide +kernel
theorem dX9_told_89 : decode cX9_told 89 = .ok (.getfield 19, 3) := by decide +kernel
theorem dX9_told_92 : decode cX9_told 92 = .ok (.getfield 126, 3) := by decide +kernel
theorem dX9_told_95 : decode cX9_told 95 = .ok (.ireturn, 1) := by decide +kernel
theorem dX9_told_96 : decode cX9_told 96 = .ok (.aload_n 0, 1) := by decide +kernel
theorem dX9_told_97 : decode cX9_told 97 = .ok (.getfield 19, 3) := by decide +kernel
theorem dX9_told_100 : decode cX9_told 100 = .ok (.getfield 129, 3) := by decide +kernel
theorem dX9_told_103 : decode cX9_told 103 = .ok (.ireturn, 1) := by decide +kernel
theorem dX9_told_104 : decode cX9_told 104 = .ok (.aload_n 0, 1) := by decide +kernel
theorem dX9_told_105 : decode cX9_told 105 = .ok (.getfield 19, 3) := by decide +kernel
theorem dX9_told_108 : decode cX9_told 108 = .ok (.getfield 132, 3) := by decide +kernel
theorem dX9_told_111 : decode cX9_told 111 = .ok (.ireturn, 1) := by decide +kernel
theorem dX9_told_112 : decode cX9_told 112 = .ok (.aload_n 0, 1) := by decide +kernel
theorem dX9_told_113 : decode cX9_told 113 = .ok (.getfield 19, 3) := by decide +kernel
theorem dX9_told_116 : decode cX9_told 116 = .ok (.getfield 117, 3) := by decide +kernel
theorem dX9_told_119 : decode cX9_told 119 = .ok (.ireturn, 1) := by decide +kernel
theorem dX9_told_120 : decode cX9_told 120 = .ok (.aload_n 0, 1) := by decide +kernel
theorem dX9_told_121 : decode cX9_told 121 = .ok (.getfield 10, 3) := by decide +kernel
theorem dX9_told_124 : decode cX9_told 124 = .ok (.getfield 86, 3) := by decide +kernel
theorem dX9_told_127 : decode cX9_told 127 = .ok (.ireturn, 1) := by decide +kernel
theorem dX9_told_128 : decode cX9_told 128 = .ok (.aload_n 0, 1) := by decide +kernel
theorem dX9_told_129 : decode cX9_told 129 = .ok (.getfield 28, 3) := by decide +kernel
theorem dX9_told_132 : decode cX9_told 132 = .ok (.getfield 135, 3) := by decide +kernel
theorem dX9_told_135 : decode cX9_told 135 = .ok (.ireturn, 1) := by decide +kernel
theorem dX9_told_136 : decode cX9_told 136 = .ok (.aload_n 0, 1) := by decide +kernel
theorem dX9_told_137 : decode cX9_told 137 = .ok (.getfield 19, 3) := by decide +kernel
theorem dX9_told_140 : decode cX9_told 140 = .ok (.getfield 138, 3) := by decide +kernel
theorem dX9_told_143 : decode cX9_told 143 = .ok (.ireturn, 1) := by decide +kernel
theorem dX9_told_144 : decode cX9_told 144 = .ok (.aload_n 0, 1) := by decide +kernel
theorem dX9_told_145 : decode cX9_told 145 = .ok (.getfield 28, 3) := by decide +kernel
theorem dX9_told_148 : decode cX9_told 148 = .ok (.invokevirtual 141, 3) := by decide +kernel
theorem dX9_told_151 : decode cX9_told 151 = .ok (.ireturn, 1) := by decide +kernel
theorem dX9_told_152 : decode cX9_told 152 = .ok (.aload_n 0, 1) := by decide +kernel
theorem dX9_told_153 : decode cX9_told 153 = .ok (.getfield 28, 3) := by decide +kernel
theorem dX9_told_156 : decode cX9_told 156 = .ok (.getfield 145, 3) := by decide +kernel
theorem dX9_told_159 : decode cX9_told 159 = .ok (.ireturn, 1) := by decide +kernel
theorem dX9_told_160 : decode cX9_told 160 = .ok (.aload_n 0, 1) := by decide +kernel
theorem dX9_told_161 : decode cX9_told 161 = .ok (.getfield 28, 3) := by decide +kernel
theorem dX9_told_164 : decode cX9_told 164 = .ok (.invokevirtual 148, 3) := by decide +kernel
theorem dX9_told_167 : decode cX9_told 167 = .ok (.ireturn, 1) := by decide +kernel
theorem dX9_told_168 : decode cX9_told 168 = .ok (.aload_n 0, 1) := by decide +kernel
theorem dX9_told_169 : decode cX9_told 169 = .ok (.getfield 59, 3) := by decide +kernel
theorem dX9_told_172 : decode cX9_told 172 = .ok (.getfield 109, 3) := by decide +kernel
theorem dX9_told_175 : decode cX9_told 175 = .ok (.ireturn, 1) := by decide +kernel
theorem dX9_told_176 : decode cX9_told 176 = .ok (.aload_n 0, 1) := by decide +kernel
theorem dX9_told_177 : decode cX9_told 177 = .ok (.getfield 66, 3) := by decide +kernel
theorem dX9_told_180 : decode cX9_told 180 = .ok (.getfield 112, 3) := by decide +kernel
theorem dX9_told_183 : decode cX9_told 183 = .ok (.ireturn, 1) := by decide +kernel
theorem dX9_told_184 : decode cX9_told 184 = .ok (.aload_n 0, 1) := by decide +kernel
theorem dX9_told_185 : decode cX9_told 185 = .ok (.getfield 38, 3) := by decide +kernel
theorem dX9_told_188 : decode cX9_told 188 = .ok (.getfield 151, 3) := by decide +kernel
theorem dX9_told_191 : decode cX9_told 191 = .ok (.ireturn, 1) := by decide +kernel
theorem dX9_told_192 : decode cX9_told 192 = .ok (.ldc 81, 2) := by decide +kernel
theorem dX9_told_194 : decode cX9_told 194 = .ok (.ireturn, 1) := by decide +kernel
theorem dX9_creditor_0 : decode cX9_creditor 0 = .ok (.aload_n 0, 1) := by decide +kernel
theorem dX9_creditor_1 : decode cX9_creditor 1 = .ok (.getfield 19, 3) := by decide +kernel
theorem dX9_creditor_4 : decode cX9_creditor 4 = .ok (.iload_n 1, 1) := by decide +kernel
theorem dX9_creditor_5 : decode cX9_creditor 5 = .ok (.invokevirtual 152, 3) := by decide +kernel
theorem dX9_creditor_8 : decode cX9_creditor 8 = .ok (.ifCond .ne 6, 3) := by decide +kernel
theorem dX9_creditor_11 : decode cX9_creditor 11 = .ok (.ldc 155, 2) := by decide +kernel
theorem dX9_creditor_13 : decode cX9_creditor 13 = .ok (.ireturn, 1) := by decide +kernel
theorem dX9_creditor_14 : decode cX9_creditor 14 = .ok (.iload_n 2, 1) := by decide +kernel
theorem dX9_creditor_15 : decode cX9_creditor 15 = .ok (.tableswitch 97 0 5 #[37, 47, 57, 67, 77, 87], 37) := by decide +kernel
theorem dX9_creditor_52 : decode cX9_creditor 52 = .ok (.aload_n 0, 1) := by decide +kernel
theorem dX9_creditor_53 : decode cX9_creditor 53 = .ok (.getfield 28, 3) := by decide +kernel
theorem dX9_creditor_56 : decode cX9_creditor 56 = .ok (.getfield 156, 3) := by decide +kernel
theorem dX9_creditor_59 : decode cX9_creditor 59 = .ok (.iload_n 1, 1) := by decide +kernel
theorem dX9_creditor_60 : decode cX9_creditor 60 = .ok (.iaload, 1) := by decide +kernel
theorem dX9_creditor_61 : decode cX9_creditor 61 = .ok (.ireturn, 1) := by decide +kernel
theorem dX9_creditor_62 : decode cX9_creditor 62 = .ok (.aload_n 0, 1) := by decide +kernel
theorem dX9_creditor_63 : decode cX9_creditor 63 = .ok (.getfield 19, 3) := by decide +kernel
theorem dX9_creditor_66 : decode cX9_creditor 66 = .ok (.getfield 160, 3) := by decide +kernel
theorem dX9_creditor_69 : decode cX9_creditor 69 = .ok (.iload_n 1, 1) := by decide +kernel
theorem dX9_creditor_70 : decode cX9_creditor 70 = .ok (.iaload, 1) := by decide +kernel
theorem dX9_creditor_71 : decode cX9_creditor 71 = .ok (.ireturn, 1) := by decide +kernel
theorem dX9_creditor_72 : decode cX9_creditor 72 = .ok (.aload_n 0, 1) := by decide +kernel
theorem dX9_creditor_73 : decode cX9_creditor 73 = .ok (.getfield 19, 3) := by decide +kernel
theorem dX9_creditor_76 : decode cX9_creditor 76 = .ok (.getfield 163, 3) := by decide +kernel
theorem dX9_creditor_79 : decode cX9_creditor 79 = .ok (.iload_n 1, 1) := by decide +kernel
theorem dX9_creditor_80 : decode cX9_creditor 80 = .ok (.iaload, 1) := by decide +kernel
theorem dX9_creditor_81 : decode cX9_creditor 81 = .ok (.ireturn, 1) := by decide +kernel
theorem dX9_creditor_82 : decode cX9_creditor 82 = .ok (.aload_n 0, 1) := by decide +kernel
theorem dX9_creditor_83 : decode cX9_creditor 83 = .ok (.getfield 19, 3) := by decide +kernel
theorem dX9_creditor_86 : decode cX9_creditor 86 = .ok (.getfield 166, 3) := by decide +kernel
theorem dX9_creditor_89 : decode cX9_creditor 89 = .ok (.iload_n 1, 1) := by decide +kernel
theorem dX9_creditor_90 : decode cX9_creditor 90 = .ok (.iaload, 1) := by decide +kernel
theorem dX9_creditor_91 : decode cX9_creditor 91 = .ok (.ireturn, 1) := by decide +kernel
theorem dX9_creditor_92 : decode cX9_creditor 92 = .ok (.aload_n 0, 1) := by decide +kernel
theorem dX9_creditor_93 : decode cX9_creditor 93 = .ok (.getfield 28, 3) := by decide +kernel
theorem dX9_creditor_96 : decode cX9_creditor 96 = .ok (.iload_n 1, 1) := by decide +kernel
theorem dX9_creditor_97 : decode cX9_creditor 97 = .ok (.iconst 1, 1) := by decide +kernel
theorem dX9_creditor_98 : decode cX9_creditor 98 = .ok (.invokevirtual 169, 3) := by decide +kernel
theorem dX9_creditor_101 : decode cX9_creditor 101 = .ok (.ireturn, 1) := by decide +kernel
theorem dX9_creditor_102 : decode cX9_creditor 102 = .ok (.aload_n 0, 1) := by decide +kernel
theorem dX9_creditor_103 : decode cX9_creditor 103 = .ok (.getfield 28, 3) := by decide +kernel
theorem dX9_creditor_106 : decode cX9_creditor 106 = .ok (.iload_n 1, 1) := by decide +kernel
theorem dX9_creditor_107 : decode cX9_creditor 107 = .ok (.iconst 2, 1) := by decide +kernel
theorem dX9_creditor_108 : decode cX9_creditor 108 = .ok (.invokevirtual 169, 3) := by decide +kernel
theorem dX9_creditor_111 : decode cX9_creditor 111 = .ok (.ireturn, 1) := by decide +kernel
theorem dX9_creditor_112 : decode cX9_creditor 112 = .ok (.ldc 81, 2) := by decide +kernel
theorem dX9_creditor_114 : decode cX9_creditor 114 = .ok (.ireturn, 1) := by decide +kernel
theorem dX9_person_0 : decode cX9_person 0 = .ok (.aload_n 0, 1) := by decide +kernel
theorem dX9_person_1 : decode cX9_person 1 = .ok (.getfield 19, 3) := by decide +kernel
theorem dX9_person_4 : decode cX9_person 4 = .ok (.iload_n 1, 1) := by decide +kernel
theorem dX9_person_5 : decode cX9_person 5 = .ok (.invokevirtual 173, 3) := by decide +kernel
theorem dX9_person_8 : decode cX9_person 8 = .ok (.ifCond .ne 6, 3) := by decide +kernel
theorem dX9_person_11 : decode cX9_person 11 = .ok (.ldc 155, 2) := by decide +kernel
theorem dX9_person_13 : decode cX9_person 13 = .ok (.ireturn, 1) := by decide +kernel
theorem dX9_person_14 : decode cX9_person 14 = .ok (.iload_n 2, 1) := by decide +kernel
theorem dX9_person_15 : decode cX9_person 15 = .ok (.tableswitch 88 0 4 #[33, 50, 60, 69, 78], 33) := by decide +kernel
theorem dX9_person_48 : decode cX9_person 48 = .ok (.aload_n 0, 1) := by decide +kernel
theorem dX9_person_49 : decode cX9_person 49 = .ok (.getfield 19, 3) := by decide +kernel
theorem dX9_person_52 : decode cX9_person 52 = .ok (.iload_n 1, 1) := by decide +kernel
theorem dX9_person_53 : decode cX9_person 53 = .ok (.invokevirtual 176, 3) := by decide +kernel
theorem dX9_person_56 : decode cX9_person 56 = .ok (.ifCond .eq 7, 3) := by decide +kernel
theorem dX9_person_59 : decode cX9_person 59 = .ok (.iconst 1, 1) := by decide +kernel
theorem dX9_person_60 : decode cX9_person 60 = .ok (.goto 4, 3) := by decide +kernel
theorem dX9_person_63 : decode cX9_person 63 = .ok (.iconst 0, 1) := by decide +kernel
theorem dX9_person_64 : decode cX9_person 64 = .ok (.ireturn, 1) := by decide +kernel
theorem dX9_person_65 : decode cX9_person 65 = .ok (.aload_n 0, 1) := by decide +kernel
theorem dX9_person_66 : decode cX9_person 66 = .ok (.getfield 28, 3) := by decide +kernel
theorem dX9_person_69 : decode cX9_person 69 = .ok (.getfield 179, 3) := by decide +kernel
theorem dX9_person_72 : decode cX9_person 72 = .ok (.iload_n 1, 1) := by decide +kernel
theorem dX9_person_73 : decode cX9_person 73 = .ok (.iaload, 1) := by decide +kernel
theorem dX9_person_74 : decode cX9_person 74 = .ok (.ireturn, 1) := by decide +kernel
theorem dX9_person_75 : decode cX9_person 75 = .ok (.aload_n 0, 1) := by decide +kernel
theorem dX9_person_76 : decode cX9_person 76 = .ok (.getfield 28, 3) := by decide +kernel
theorem dX9_person_79 : decode cX9_person 79 = .ok (.iload_n 1, 1) := by decide +kernel
theorem dX9_person_80 : decode cX9_person 80 = .ok (.invokevirtual 182, 3) := by decide +kernel
theorem dX9_person_83 : decode cX9_person 83 = .ok (.ireturn, 1) := by decide +kernel
theorem dX9_person_84 : decode cX9_person 84 = .ok (.aload_n 0, 1) := by decide +kernel
theorem dX9_person_85 : decode cX9_person 85 = .ok (.getfield 28, 3) := by decide +kernel
theorem dX9_person_88 : decode cX9_person 88 = .ok (.iload_n 1, 1) := by decide +kernel
theorem dX9_person_89 : decode cX9_person 89 = .ok (.invokevirtual 186, 3) := by decide +kernel
theorem dX9_person_92 : decode cX9_person 92 = .ok (.ireturn, 1) := by decide +kernel
theorem dX9_person_93 : decode cX9_person 93 = .ok (.aload_n 0, 1) := by decide +kernel
theorem dX9_person_94 : decode cX9_person 94 = .ok (.getfield 28, 3) := by decide +kernel
theorem dX9_person_97 : decode cX9_person 97 = .ok (.getfield 189, 3) := by decide +kernel
theorem dX9_person_100 : decode cX9_person 100 = .ok (.iload_n 1, 1) := by decide +kernel
theorem dX9_person_101 : decode cX9_person 101 = .ok (.iaload, 1) := by decide +kernel
theorem dX9_person_102 : decode cX9_person 102 = .ok (.ireturn, 1) := by decide +kernel
theorem dX9_person_103 : decode cX9_person 103 = .ok (.ldc 81, 2) := by decide +kernel
theorem dX9_person_105 : decode cX9_person 105 = .ok (.ireturn, 1) := by decide +kernel
theorem dX9_owes_0 : decode cX9_owes 0 = .ok (.aload_n 0, 1) := by decide +kernel
theorem dX9_owes_1 : decode cX9_owes 1 = .ok (.getfield 19, 3) := by decide +kernel
theorem dX9_owes_4 : decode cX9_owes 4 = .ok (.iload_n 1, 1) := by decide +kernel
theorem dX9_owes_5 : decode cX9_owes 5 = .ok (.iload_n 2, 1) := by decide +kernel
theorem dX9_owes_6 : decode cX9_owes 6 = .ok (.invokevirtual 192, 3) := by decide +kernel
theorem dX9_owes_9 : decode cX9_owes 9 = .ok (.ifCond .eq 15, 3) := by decide +kernel
theorem dX9_owes_12 : decode cX9_owes 12 = .ok (.aload_n 0, 1) := by decide +kernel
theorem dX9_owes_13 : decode cX9_owes 13 = .ok (.getfield 28, 3) := by decide +kernel
theorem dX9_owes_16 : decode cX9_owes 16 = .ok (.iload_n 1, 1) := by decide +kernel
theorem dX9_owes_17 : decode cX9_owes 17 = .ok (.iload_n 2, 1) := by decide +kernel
theorem dX9_owes_18 : decode cX9_owes 18 = .ok (.invokevirtual 196, 3) := by decide +kernel
theorem dX9_owes_21 : decode cX9_owes 21 = .ok (.goto 5, 3) := by decide +kernel
theorem dX9_owes_24 : decode cX9_owes 24 = .ok (.ldc 155, 2) := by decide +kernel
theorem dX9_owes_26 : decode cX9_owes 26 = .ok (.ireturn, 1) := by decide +kernel
theorem dX9_temper_0 : decode cX9_temper 0 = .ok (.aload_n 0, 1) := by decide +kernel
theorem dX9_temper_1 : decode cX9_temper 1 = .ok (.getfield 19, 3) := by decide +kernel
theorem dX9_temper_4 : decode cX9_temper 4 = .ok (.iload_n 1, 1) := by decide +kernel
theorem dX9_temper_5 : decode cX9_temper 5 = .ok (.iload_n 2, 1) := by decide +kernel
theorem dX9_temper_6 : decode cX9_temper 6 = .ok (.invokevirtual 192, 3) := by decide +kernel
theorem dX9_temper_9 : decode cX9_temper 9 = .ok (.ifCond .eq 15, 3) := by decide +kernel
theorem dX9_temper_12 : decode cX9_temper 12 = .ok (.aload_n 0, 1) := by decide +kernel
theorem dX9_temper_13 : decode cX9_temper 13 = .ok (.getfield 28, 3) := by decide +kernel
theorem dX9_temper_16 : decode cX9_temper 16 = .ok (.iload_n 1, 1) := by decide +kernel
theorem dX9_temper_17 : decode cX9_temper 17 = .ok (.iload_n 2, 1) := by decide +kernel
theorem dX9_temper_18 : decode cX9_temper 18 = .ok (.invokevirtual 199, 3) := by decide +kernel
theorem dX9_temper_21 : decode cX9_temper 21 = .ok (.goto 5, 3) := by decide +kernel
theorem dX9_temper_24 : decode cX9_temper 24 = .ok (.ldc 155, 2) := by decide +kernel
theorem dX9_temper_26 : decode cX9_temper 26 = .ok (.ireturn, 1) := by decide +kernel
theorem dX9_borrow_0 : decode cX9_borrow 0 = .ok (.aload_n 0, 1) := by decide +kernel
theorem dX9_borrow_1 : decode cX9_borrow 1 = .ok (.getfield 19, 3) := by decide +kernel
theorem dX9_borrow_4 : decode cX9_borrow 4 = .ok (.iload_n 1, 1) := by decide +kernel
theorem dX9_borrow_5 : decode cX9_borrow 5 = .ok (.iload_n 2, 1) := by decide +kernel
theorem dX9_borrow_6 : decode cX9_borrow 6 = .ok (.invokevirtual 192, 3) := by decide +kernel
theorem dX9_borrow_9 : decode cX9_borrow 9 = .ok (.ifCond .ne 6, 3) := by decide +kernel
theorem dX9_borrow_12 : decode cX9_borrow 12 = .ok (.ldc 155, 2) := by decide +kernel
theorem dX9_borrow_14 : decode cX9_borrow 14 = .ok (.ireturn, 1) := by decide +kernel
theorem dX9_borrow_15 : decode cX9_borrow 15 = .ok (.iload_n 3, 1) := by decide +kernel
theorem dX9_borrow_16 : decode cX9_borrow 16 = .ok (.iconst 1, 1) := by decide +kernel
theorem dX9_borrow_17 : decode cX9_borrow 17 = .ok (.if_icmp .lt 10, 3) := by decide +kernel
theorem dX9_borrow_20 : decode cX9_borrow 20 = .ok (.iload_n 3, 1) := by decide +kernel
theorem dX9_borrow_21 : decode cX9_borrow 21 = .ok (.sipush 999, 3) := by decide +kernel
theorem dX9_borrow_24 : decode cX9_borrow 24 = .ok (.if_icmp .le 6, 3) := by decide +kernel
theorem dX9_borrow_27 : decode cX9_borrow 27 = .ok (.ldc 81, 2) := by decide +kernel
theorem dX9_borrow_29 : decode cX9_borrow 29 = .ok (.ireturn, 1) := by decide +kernel
theorem dX9_borrow_30 : decode cX9_borrow 30 = .ok (.aload_n 0, 1) := by decide +kernel
theorem dX9_borrow_31 : decode cX9_borrow 31 = .ok (.getfield 28, 3) := by decide +kernel
theorem dX9_borrow_34 : decode cX9_borrow 34 = .ok (.iload_n 1, 1) := by decide +kernel
theorem dX9_borrow_35 : decode cX9_borrow 35 = .ok (.iload_n 2, 1) := by decide +kernel
theorem dX9_borrow_36 : decode cX9_borrow 36 = .ok (.iload_n 3, 1) := by decide +kernel
theorem dX9_borrow_37 : decode cX9_borrow 37 = .ok (.invokevirtual 202, 3) := by decide +kernel
theorem dX9_borrow_40 : decode cX9_borrow 40 = .ok (.ifCond .ne 6, 3) := by decide +kernel
theorem dX9_borrow_43 : decode cX9_borrow 43 = .ok (.ldc 206, 2) := by decide +kernel
theorem dX9_borrow_45 : decode cX9_borrow 45 = .ok (.ireturn, 1) := by decide +kernel
theorem dX9_borrow_46 : decode cX9_borrow 46 = .ok (.aload_n 0, 1) := by decide +kernel
theorem dX9_borrow_47 : decode cX9_borrow 47 = .ok (.getfield 38, 3) := by decide +kernel
theorem dX9_borrow_50 : decode cX9_borrow 50 = .ok (.aload_n 0, 1) := by decide +kernel
theorem dX9_borrow_51 : decode cX9_borrow 51 = .ok (.getfield 28, 3) := by decide +kernel
theorem dX9_borrow_54 : decode cX9_borrow 54 = .ok (.invokevirtual 207, 3) := by decide +kernel
theorem dX9_borrow_57 : decode cX9_borrow 57 = .ok (.aload_n 0, 1) := by decide +kernel
theorem dX9_borrow_58 : decode cX9_borrow 58 = .ok (.getfield 28, 3) := by decide +kernel
theorem dX9_borrow_61 : decode cX9_borrow 61 = .ok (.iload_n 1, 1) := by decide +kernel
theorem dX9_borrow_62 : decode cX9_borrow 62 = .ok (.iload_n 2, 1) := by decide +kernel
theorem dX9_borrow_63 : decode cX9_borrow 63 = .ok (.iload_n 3, 1) := by decide +kernel
theorem dX9_borrow_64 : decode cX9_borrow 64 = .ok (.invokevirtual 210, 3) := by decide +kernel
theorem dX9_borrow_67 : decode cX9_borrow 67 = .ok (.aload_n 0, 1) := by decide +kernel
theorem dX9_borrow_68 : decode cX9_borrow 68 = .ok (.getfield 28, 3) := by decide +kernel
theorem dX9_borrow_71 : decode cX9_borrow 71 = .ok (.iload_n 1, 1) := by decide +kernel
theorem dX9_borrow_72 : decode cX9_borrow 72 = .ok (.iload_n 2, 1) := by decide +kernel
theorem dX9_borrow_73 : decode cX9_borrow 73 = .ok (.invokevirtual 196, 3) := by decide +kernel
theorem dX9_borrow_76 : decode cX9_borrow 76 = .ok (.ireturn, 1) := by decide +kernel
theorem dX9_pay_0 : decode cX9_pay 0 = .ok (.aload_n 0, 1) := by decide +kernel
theorem dX9_pay_1 : decode cX9_pay 1 = .ok (.getfield 19, 3) := by decide +kernel
theorem dX9_pay_4 : decode cX9_pay 4 = .ok (.iload_n 1, 1) := by decide +kernel
theorem dX9_pay_5 : decode cX9_pay 5 = .ok (.iload_n 2, 1) := by decide +kernel
theorem dX9_pay_6 : decode cX9_pay 6 = .ok (.invokevirtual 192, 3) := by decide +kernel
theorem dX9_pay_9 : decode cX9_pay 9 = .ok (.ifCond .ne 6, 3) := by decide +kernel
theorem dX9_pay_12 : decode cX9_pay 12 = .ok (.ldc 155, 2) := by decide +kernel
theorem dX9_pay_14 : decode cX9_pay 14 = .ok (.ireturn, 1) := by decide +kernel
theorem dX9_pay_15 : decode cX9_pay 15 = .ok (.iload_n 3, 1) := by decide +kernel
theorem dX9_pay_16 : decode cX9_pay 16 = .ok (.iconst 1, 1) := by decide +kernel
theorem dX9_pay_17 : decode cX9_pay 17 = .ok (.if_icmp .lt 10, 3) := by decide +kernel
theorem dX9_pay_20 : decode cX9_pay 20 = .ok (.iload_n 3, 1) := by decide +kernel
theorem dX9_pay_21 : decode cX9_pay 21 = .ok (.sipush 9999, 3) := by decide +kernel
theorem dX9_pay_24 : decode cX9_pay 24 = .ok (.if_icmp .le 6, 3) := by decide +kernel
theorem dX9_pay_27 : decode cX9_pay 27 = .ok (.ldc 81, 2) := by decide +kernel
theorem dX9_pay_29 : decode cX9_pay 29 = .ok (.ireturn, 1) := by decide +kernel
theorem dX9_pay_30 : decode cX9_pay 30 = .ok (.iload_n 3, 1) := by decide +kernel
theorem dX9_pay_31 : decode cX9_pay 31 = .ok (.aload_n 0, 1) := by decide +kernel
theorem dX9_pay_32 : decode cX9_pay 32 = .ok (.getfield 28, 3) := by decide +kernel
theorem dX9_pay_35 : decode cX9_pay 35 = .ok (.iload_n 1, 1) := by decide +kernel
theorem dX9_pay_36 : decode cX9_pay 36 = .ok (.iload_n 2, 1) := by decide +kernel
theorem dX9_pay_37 : decode cX9_pay 37 = .ok (.invokevirtual 196, 3) := by decide +kernel
theorem dX9_pay_40 : decode cX9_pay 40 = .ok (.if_icmp .le 6, 3) := by decide +kernel
theorem dX9_pay_43 : decode cX9_pay 43 = .ok (.ldc 206, 2) := by decide +kernel
theorem dX9_pay_45 : decode cX9_pay 45 = .ok (.ireturn, 1) := by decide +kernel
theorem dX9_pay_46 : decode cX9_pay 46 = .ok (.aload_n 0, 1) := by decide +kernel
theorem dX9_pay_47 : decode cX9_pay 47 = .ok (.getfield 38, 3) := by decide +kernel
theorem dX9_pay_50 : decode cX9_pay 50 = .ok (.aload_n 0, 1) := by decide +kernel
theorem dX9_pay_51 : decode cX9_pay 51 = .ok (.getfield 28, 3) := by decide +kernel
theorem dX9_pay_54 : decode cX9_pay 54 = .ok (.invokevirtual 207, 3) := by decide +kernel
theorem dX9_pay_57 : decode cX9_pay 57 = .ok (.aload_n 0, 1) := by decide +kernel
theorem dX9_pay_58 : decode cX9_pay 58 = .ok (.getfield 28, 3) := by decide +kernel
theorem dX9_pay_61 : decode cX9_pay 61 = .ok (.iload_n 1, 1) := by decide +kernel
theorem dX9_pay_62 : decode cX9_pay 62 = .ok (.iload_n 2, 1) := by decide +kernel
theorem dX9_pay_63 : decode cX9_pay 63 = .ok (.iload_n 3, 1) := by decide +kernel
theorem dX9_pay_64 : decode cX9_pay 64 = .ok (.invokevirtual 214, 3) := by decide +kernel
theorem dX9_pay_67 : decode cX9_pay 67 = .ok (.aload_n 0, 1) := by decide +kernel
theorem dX9_pay_68 : decode cX9_pay 68 = .ok (.getfield 28, 3) := by decide +kernel
theorem dX9_pay_71 : decode cX9_pay 71 = .ok (.iload_n 1, 1) := by decide +kernel
theorem dX9_pay_72 : decode cX9_pay 72 = .ok (.iload_n 2, 1) := by decide +kernel
theorem dX9_pay_73 : decode cX9_pay 73 = .ok (.invokevirtual 196, 3) := by decide +kernel
theorem dX9_pay_76 : decode cX9_pay 76 = .ok (.ireturn, 1) := by decide +kernel
theorem dX9_quarter_0 : decode cX9_quarter 0 = .ok (.aload_n 0, 1) := by decide +kernel
theorem dX9_quarter_1 : decode cX9_quarter 1 = .ok (.iload_n 1, 1) := by decide +kernel
theorem dX9_quarter_2 : decode cX9_quarter 2 = .ok (.invokevirtual 217, 3) := by decide +kernel
theorem dX9_quarter_5 : decode cX9_quarter 5 = .ok (.istore_n 2, 1) := by decide +kernel
theorem dX9_quarter_6 : decode cX9_quarter 6 = .ok (.iload_n 2, 1) := by decide +kernel
theorem dX9_quarter_7 : decode cX9_quarter 7 = .ok (.ifCond .eq 5, 3) := by decide +kernel
theorem dX9_quarter_10 : decode cX9_quarter 10 = .ok (.iload_n 2, 1) := by decide +kernel
theorem dX9_quarter_11 : decode cX9_quarter 11 = .ok (.ireturn, 1) := by decide +kernel
theorem dX9_quarter_12 : decode cX9_quarter 12 = .ok (.iconst 0, 1) := by decide +kernel
theorem dX9_quarter_13 : decode cX9_quarter 13 = .ok (.istore_n 3, 1) := by decide +kernel
theorem dX9_quarter_14 : decode cX9_quarter 14 = .ok (.iconst 0, 1) := by decide +kernel
theorem dX9_quarter_15 : decode cX9_quarter 15 = .ok (.istore 4, 2) := by decide +kernel
theorem dX9_quarter_17 : decode cX9_quarter 17 = .ok (.iload 4, 2) := by decide +kernel
theorem dX9_quarter_19 : decode cX9_quarter 19 = .ok (.iload_n 1, 1) := by decide +kernel
theorem dX9_quarter_20 : decode cX9_quarter 20 = .ok (.if_icmp .ge 30, 3) := by decide +kernel
theorem dX9_quarter_23 : decode cX9_quarter 23 = .ok (.aload_n 0, 1) := by decide +kernel
theorem dX9_quarter_24 : decode cX9_quarter 24 = .ok (.getfield 38, 3) := by decide +kernel
theorem dX9_quarter_27 : decode cX9_quarter 27 = .ok (.aload_n 0, 1) := by decide +kernel
theorem dX9_quarter_28 : decode cX9_quarter 28 = .ok (.getfield 28, 3) := by decide +kernel
theorem dX9_quarter_31 : decode cX9_quarter 31 = .ok (.invokevirtual 207, 3) := by decide +kernel
theorem dX9_quarter_34 : decode cX9_quarter 34 = .ok (.iload_n 3, 1) := by decide +kernel
theorem dX9_quarter_35 : decode cX9_quarter 35 = .ok (.aload_n 0, 1) := by decide +kernel
theorem dX9_quarter_36 : decode cX9_quarter 36 = .ok (.getfield 28, 3) := by decide +kernel
theorem dX9_quarter_39 : decode cX9_quarter 39 = .ok (.invokevirtual 220, 3) := by decide +kernel
theorem dX9_quarter_42 : decode cX9_quarter 42 = .ok (.ior, 1) := by decide +kernel
theorem dX9_quarter_43 : decode cX9_quarter 43 = .ok (.istore_n 3, 1) := by decide +kernel
theorem dX9_quarter_44 : decode cX9_quarter 44 = .ok (.iinc 4 1, 3) := by decide +kernel
theorem dX9_quarter_47 : decode cX9_quarter 47 = .ok (.goto (-30), 3) := by decide +kernel
theorem dX9_quarter_50 : decode cX9_quarter 50 = .ok (.iload_n 3, 1) := by decide +kernel
theorem dX9_quarter_51 : decode cX9_quarter 51 = .ok (.invokestatic 223, 3) := by decide +kernel
theorem dX9_quarter_54 : decode cX9_quarter 54 = .ok (.ireturn, 1) := by decide +kernel
theorem dX9_wed_0 : decode cX9_wed 0 = .ok (.aload_n 0, 1) := by decide +kernel
theorem dX9_wed_1 : decode cX9_wed 1 = .ok (.iload_n 1, 1) := by decide +kernel
theorem dX9_wed_2 : decode cX9_wed 2 = .ok (.iload_n 2, 1) := by decide +kernel
theorem dX9_wed_3 : decode cX9_wed 3 = .ok (.invokevirtual 228, 3) := by decide +kernel
theorem dX9_wed_6 : decode cX9_wed 6 = .ok (.istore_n 3, 1) := by decide +kernel
theorem dX9_wed_7 : decode cX9_wed 7 = .ok (.iload_n 3, 1) := by decide +kernel
theorem dX9_wed_8 : decode cX9_wed 8 = .ok (.ifCond .eq 5, 3) := by decide +kernel
theorem dX9_wed_11 : decode cX9_wed 11 = .ok (.iload_n 3, 1) := by decide +kernel
theorem dX9_wed_12 : decode cX9_wed 12 = .ok (.ireturn, 1) := by decide +kernel
theorem dX9_wed_13 : decode cX9_wed 13 = .ok (.aload_n 0, 1) := by decide +kernel
theorem dX9_wed_14 : decode cX9_wed 14 = .ok (.getfield 38, 3) := by decide +kernel
theorem dX9_wed_17 : decode cX9_wed 17 = .ok (.aload_n 0, 1) := by decide +kernel
theorem dX9_wed_18 : decode cX9_wed 18 = .ok (.getfield 28, 3) := by decide +kernel
theorem dX9_wed_21 : decode cX9_wed 21 = .ok (.invokevirtual 207, 3) := by decide +kernel
theorem dX9_wed_24 : decode cX9_wed 24 = .ok (.aload_n 0, 1) := by decide +kernel
theorem dX9_wed_25 : decode cX9_wed 25 = .ok (.getfield 28, 3) := by decide +kernel
theorem dX9_wed_28 : decode cX9_wed 28 = .ok (.iload_n 1, 1) := by decide +kernel
theorem dX9_wed_29 : decode cX9_wed 29 = .ok (.iload_n 2, 1) := by decide +kernel
theorem dX9_wed_30 : decode cX9_wed 30 = .ok (.invokevirtual 231, 3) := by decide +kernel
theorem dX9_wed_33 : decode cX9_wed 33 = .ok (.aload_n 0, 1) := by decide +kernel
theorem dX9_wed_34 : decode cX9_wed 34 = .ok (.getfield 28, 3) := by decide +kernel
theorem dX9_wed_37 : decode cX9_wed 37 = .ok (.iload_n 1, 1) := by decide +kernel
theorem dX9_wed_38 : decode cX9_wed 38 = .ok (.invokevirtual 186, 3) := by decide +kernel
theorem dX9_wed_41 : decode cX9_wed 41 = .ok (.bipush 10, 2) := by decide +kernel
theorem dX9_wed_43 : decode cX9_wed 43 = .ok (.iadd, 1) := by decide +kernel
theorem dX9_wed_44 : decode cX9_wed 44 = .ok (.ireturn, 1) := by decide +kernel
theorem dX9_divorce_0 : decode cX9_divorce 0 = .ok (.aload_n 0, 1) := by decide +kernel
theorem dX9_divorce_1 : decode cX9_divorce 1 = .ok (.getfield 19, 3) := by decide +kernel
theorem dX9_divorce_4 : decode cX9_divorce 4 = .ok (.iload_n 1, 1) := by decide +kernel
theorem dX9_divorce_5 : decode cX9_divorce 5 = .ok (.invokevirtual 176, 3) := by decide +kernel
theorem dX9_divorce_8 : decode cX9_divorce 8 = .ok (.ifCond .ne 6, 3) := by decide +kernel
theorem dX9_divorce_11 : decode cX9_divorce 11 = .ok (.ldc 155, 2) := by decide +kernel
theorem dX9_divorce_13 : decode cX9_divorce 13 = .ok (.ireturn, 1) := by decide +kernel
theorem dX9_divorce_14 : decode cX9_divorce 14 = .ok (.aload_n 0, 1) := by decide +kernel
theorem dX9_divorce_15 : decode cX9_divorce 15 = .ok (.getfield 28, 3) := by decide +kernel
theorem dX9_divorce_18 : decode cX9_divorce 18 = .ok (.getfield 179, 3) := by decide +kernel
theorem dX9_divorce_21 : decode cX9_divorce 21 = .ok (.iload_n 1, 1) := by decide +kernel
theorem dX9_divorce_22 : decode cX9_divorce 22 = .ok (.iaload, 1) := by decide +kernel
theorem dX9_divorce_23 : decode cX9_divorce 23 = .ok (.istore_n 2, 1) := by decide +kernel
theorem dX9_divorce_24 : decode cX9_divorce 24 = .ok (.aload_n 0, 1) := by decide +kernel
theorem dX9_divorce_25 : decode cX9_divorce 25 = .ok (.getfield 19, 3) := by decide +kernel
theorem dX9_divorce_28 : decode cX9_divorce 28 = .ok (.iload_n 2, 1) := by decide +kernel
theorem dX9_divorce_29 : decode cX9_divorce 29 = .ok (.invokevirtual 173, 3) := by decide +kernel
theorem dX9_divorce_32 : decode cX9_divorce 32 = .ok (.ifCond .ne 6, 3) := by decide +kernel
theorem dX9_divorce_35 : decode cX9_divorce 35 = .ok (.ldc 206, 2) := by decide +kernel
theorem dX9_divorce_37 : decode cX9_divorce 37 = .ok (.ireturn, 1) := by decide +kernel
theorem dX9_divorce_38 : decode cX9_divorce 38 = .ok (.aload_n 0, 1) := by decide +kernel
theorem dX9_divorce_39 : decode cX9_divorce 39 = .ok (.getfield 38, 3) := by decide +kernel
theorem dX9_divorce_42 : decode cX9_divorce 42 = .ok (.aload_n 0, 1) := by decide +kernel
theorem dX9_divorce_43 : decode cX9_divorce 43 = .ok (.getfield 28, 3) := by decide +kernel
theorem dX9_divorce_46 : decode cX9_divorce 46 = .ok (.invokevirtual 207, 3) := by decide +kernel
theorem dX9_divorce_49 : decode cX9_divorce 49 = .ok (.aload_n 0, 1) := by decide +kernel
theorem dX9_divorce_50 : decode cX9_divorce 50 = .ok (.getfield 28, 3) := by decide +kernel
theorem dX9_divorce_53 : decode cX9_divorce 53 = .ok (.iload_n 1, 1) := by decide +kernel
theorem dX9_divorce_54 : decode cX9_divorce 54 = .ok (.iload_n 2, 1) := by decide +kernel
theorem dX9_divorce_55 : decode cX9_divorce 55 = .ok (.invokevirtual 235, 3) := by decide +kernel
theorem dX9_divorce_58 : decode cX9_divorce 58 = .ok (.aload_n 0, 1) := by decide +kernel
theorem dX9_divorce_59 : decode cX9_divorce 59 = .ok (.getfield 28, 3) := by decide +kernel
theorem dX9_divorce_62 : decode cX9_divorce 62 = .ok (.iload_n 2, 1) := by decide +kernel
theorem dX9_divorce_63 : decode cX9_divorce 63 = .ok (.invokevirtual 182, 3) := by decide +kernel
theorem dX9_divorce_66 : decode cX9_divorce 66 = .ok (.ireturn, 1) := by decide +kernel
theorem dX9_drift_0 : decode cX9_drift 0 = .ok (.aload_n 0, 1) := by decide +kernel
theorem dX9_drift_1 : decode cX9_drift 1 = .ok (.iload_n 1, 1) := by decide +kernel
theorem dX9_drift_2 : decode cX9_drift 2 = .ok (.invokevirtual 217, 3) := by decide +kernel
theorem dX9_drift_5 : decode cX9_drift 5 = .ok (.istore_n 2, 1) := by decide +kernel
theorem dX9_drift_6 : decode cX9_drift 6 = .ok (.iload_n 2, 1) := by decide +kernel
theorem dX9_drift_7 : decode cX9_drift 7 = .ok (.ifCond .eq 5, 3) := by decide +kernel
theorem dX9_drift_10 : decode cX9_drift 10 = .ok (.iload_n 2, 1) := by decide +kernel
theorem dX9_drift_11 : decode cX9_drift 11 = .ok (.ireturn, 1) := by decide +kernel
theorem dX9_drift_12 : decode cX9_drift 12 = .ok (.iconst 0, 1) := by decide +kernel
theorem dX9_drift_13 : decode cX9_drift 13 = .ok (.istore_n 3, 1) := by decide +kernel
theorem dX9_drift_14 : decode cX9_drift 14 = .ok (.iload_n 3, 1) := by decide +kernel
theorem dX9_drift_15 : decode cX9_drift 15 = .ok (.iload_n 1, 1) := by decide +kernel
theorem dX9_drift_16 : decode cX9_drift 16 = .ok (.if_icmp .ge 32, 3) := by decide +kernel
theorem dX9_drift_19 : decode cX9_drift 19 = .ok (.aload_n 0, 1) := by decide +kernel
theorem dX9_drift_20 : decode cX9_drift 20 = .ok (.getfield 38, 3) := by decide +kernel
theorem dX9_drift_23 : decode cX9_drift 23 = .ok (.aload_n 0, 1) := by decide +kernel
theorem dX9_drift_24 : decode cX9_drift 24 = .ok (.getfield 28, 3) := by decide +kernel
theorem dX9_drift_27 : decode cX9_drift 27 = .ok (.invokevirtual 207, 3) := by decide +kernel
theorem dX9_drift_30 : decode cX9_drift 30 = .ok (.aload_n 0, 1) := by decide +kernel
theorem dX9_drift_31 : decode cX9_drift 31 = .ok (.invokevirtual 238, 3) := by decide +kernel
theorem dX9_drift_34 : decode cX9_drift 34 = .ok (.aload_n 0, 1) := by decide +kernel
theorem dX9_drift_35 : decode cX9_drift 35 = .ok (.getfield 28, 3) := by decide +kernel
theorem dX9_drift_38 : decode cX9_drift 38 = .ok (.invokevirtual 220, 3) := by decide +kernel
theorem dX9_drift_41 : decode cX9_drift 41 = .ok (.pop, 1) := by decide +kernel
theorem dX9_drift_42 : decode cX9_drift 42 = .ok (.iinc 3 1, 3) := by decide +kernel
theorem dX9_drift_45 : decode cX9_drift 45 = .ok (.goto (-31), 3) := by decide +kernel
theorem dX9_drift_48 : decode cX9_drift 48 = .ok (.aload_n 0, 1) := by decide +kernel
theorem dX9_drift_49 : decode cX9_drift 49 = .ok (.getfield 28, 3) := by decide +kernel
theorem dX9_drift_52 : decode cX9_drift 52 = .ok (.invokevirtual 148, 3) := by decide +kernel
theorem dX9_drift_55 : decode cX9_drift 55 = .ok (.ireturn, 1) := by decide +kernel
theorem dX9_undo_0 : decode cX9_undo 0 = .ok (.iload_n 1, 1) := by decide +kernel
theorem dX9_undo_1 : decode cX9_undo 1 = .ok (.iconst 1, 1) := by decide +kernel
theorem dX9_undo_2 : decode cX9_undo 2 = .ok (.if_icmp .lt 9, 3) := by decide +kernel
theorem dX9_undo_5 : decode cX9_undo 5 = .ok (.iload_n 1, 1) := by decide +kernel
theorem dX9_undo_6 : decode cX9_undo 6 = .ok (.bipush 30, 2) := by decide +kernel
theorem dX9_undo_8 : decode cX9_undo 8 = .ok (.if_icmp .le 6, 3) := by decide +kernel
theorem dX9_undo_11 : decode cX9_undo 11 = .ok (.ldc 81, 2) := by decide +kernel
theorem dX9_undo_13 : decode cX9_undo 13 = .ok (.ireturn, 1) := by decide +kernel
theorem dX9_undo_14 : decode cX9_undo 14 = .ok (.iload_n 1, 1) := by decide +kernel
theorem dX9_undo_15 : decode cX9_undo 15 = .ok (.aload_n 0, 1) := by decide +kernel
theorem dX9_undo_16 : decode cX9_undo 16 = .ok (.getfield 38, 3) := by decide +kernel
theorem dX9_undo_19 : decode cX9_undo 19 = .ok (.getfield 151, 3) := by decide +kernel
theorem dX9_undo_22 : decode cX9_undo 22 = .ok (.if_icmp .le 6, 3) := by decide +kernel
theorem dX9_undo_25 : decode cX9_undo 25 = .ok (.ldc 206, 2) := by decide +kernel
theorem dX9_undo_27 : decode cX9_undo 27 = .ok (.ireturn, 1) := by decide +kernel
theorem dX9_undo_28 : decode cX9_undo 28 = .ok (.aload_n 0, 1) := by decide +kernel
theorem dX9_undo_29 : decode cX9_undo 29 = .ok (.getfield 38, 3) := by decide +kernel
theorem dX9_undo_32 : decode cX9_undo 32 = .ok (.aload_n 0, 1) := by decide +kernel
theorem dX9_undo_33 : decode cX9_undo 33 = .ok (.getfield 28, 3) := by decide +kernel
theorem dX9_undo_36 : decode cX9_undo 36 = .ok (.iload_n 1, 1) := by decide +kernel
theorem dX9_undo_37 : decode cX9_undo 37 = .ok (.invokevirtual 241, 3) := by decide +kernel
theorem dX9_undo_40 : decode cX9_undo 40 = .ok (.aload_n 0, 1) := by decide +kernel
theorem dX9_undo_41 : decode cX9_undo 41 = .ok (.getfield 28, 3) := by decide +kernel
theorem dX9_undo_44 : decode cX9_undo 44 = .ok (.getfield 135, 3) := by decide +kernel
theorem dX9_undo_47 : decode cX9_undo 47 = .ok (.ireturn, 1) := by decide +kernel
theorem dX9_joined_0 : decode cX9_joined 0 = .ok (.aload_n 0, 1) := by decide +kernel
theorem dX9_joined_1 : decode cX9_joined 1 = .ok (.iload_n 1, 1) := by decide +kernel
theorem dX9_joined_2 : decode cX9_joined 2 = .ok (.iload_n 2, 1) := by decide +kernel
theorem dX9_joined_3 : decode cX9_joined 3 = .ok (.invokevirtual 228, 3) := by decide +kernel
theorem dX9_joined_6 : decode cX9_joined 6 = .ok (.istore_n 3, 1) := by decide +kernel
theorem dX9_joined_7 : decode cX9_joined 7 = .ok (.iload_n 3, 1) := by decide +kernel
theorem dX9_joined_8 : decode cX9_joined 8 = .ok (.ifCond .eq 5, 3) := by decide +kernel
theorem dX9_joined_11 : decode cX9_joined 11 = .ok (.iload_n 3, 1) := by decide +kernel
theorem dX9_joined_12 : decode cX9_joined 12 = .ok (.ireturn, 1) := by decide +kernel
theorem dX9_joined_13 : decode cX9_joined 13 = .ok (.aload_n 0, 1) := by decide +kernel
theorem dX9_joined_14 : decode cX9_joined 14 = .ok (.getfield 28, 3) := by decide +kernel
theorem dX9_joined_17 : decode cX9_joined 17 = .ok (.iload_n 1, 1) := by decide +kernel
theorem dX9_joined_18 : decode cX9_joined 18 = .ok (.iload_n 2, 1) := by decide +kernel
theorem dX9_joined_19 : decode cX9_joined 19 = .ok (.invokevirtual 245, 3) := by decide +kernel
theorem dX9_joined_22 : decode cX9_joined 22 = .ok (.bipush 10, 2) := by decide +kernel
theorem dX9_joined_24 : decode cX9_joined 24 = .ok (.iadd, 1) := by decide +kernel
theorem dX9_joined_25 : decode cX9_joined 25 = .ok (.ireturn, 1) := by decide +kernel
theorem dX9_least_0 : decode cX9_least 0 = .ok (.aload_n 0, 1) := by decide +kernel
theorem dX9_least_1 : decode cX9_least 1 = .ok (.getfield 19, 3) := by decide +kernel
theorem dX9_least_4 : decode cX9_least 4 = .ok (.iload_n 1, 1) := by decide +kernel
theorem dX9_least_5 : decode cX9_least 5 = .ok (.invokevirtual 173, 3) := by decide +kernel
theorem dX9_least_8 : decode cX9_least 8 = .ok (.ifCond .ne 6, 3) := by decide +kernel
theorem dX9_least_11 : decode cX9_least 11 = .ok (.ldc 155, 2) := by decide +kernel
theorem dX9_least_13 : decode cX9_least 13 = .ok (.ireturn, 1) := by decide +kernel
theorem dX9_least_14 : decode cX9_least 14 = .ok (.iload_n 2, 1) := by decide +kernel
theorem dX9_least_15 : decode cX9_least 15 = .ok (.iconst 1, 1) := by decide +kernel
theorem dX9_least_16 : decode cX9_least 16 = .ok (.if_icmp .lt 18, 3) := by decide +kernel
theorem dX9_least_19 : decode cX9_least 19 = .ok (.iload_n 2, 1) := by decide +kernel
theorem dX9_least_20 : decode cX9_least 20 = .ok (.bipush 36, 2) := by decide +kernel
theorem dX9_least_22 : decode cX9_least 22 = .ok (.if_icmp .gt 12, 3) := by decide +kernel
theorem dX9_least_25 : decode cX9_least 25 = .ok (.iload_n 3, 1) := by decide +kernel
theorem dX9_least_26 : decode cX9_least 26 = .ok (.ifCond .lt 8, 3) := by decide +kernel
theorem dX9_least_29 : decode cX9_least 29 = .ok (.iload_n 3, 1) := by decide +kernel
theorem dX9_least_30 : decode cX9_least 30 = .ok (.iconst 1, 1) := by decide +kernel
theorem dX9_least_31 : decode cX9_least 31 = .ok (.if_icmp .le 6, 3) := by decide +kernel
theorem dX9_least_34 : decode cX9_least 34 = .ok (.ldc 81, 2) := by decide +kernel
theorem dX9_least_36 : decode cX9_least 36 = .ok (.ireturn, 1) := by decide +kernel
theorem dX9_least_37 : decode cX9_least 37 = .ok (.aload_n 0, 1) := by decide +kernel
theorem dX9_least_38 : decode cX9_least 38 = .ok (.getfield 28, 3) := by decide +kernel
theorem dX9_least_41 : decode cX9_least 41 = .ok (.iload_n 1, 1) := by decide +kernel
theorem dX9_least_42 : decode cX9_least 42 = .ok (.invokevirtual 248, 3) := by decide +kernel
theorem dX9_least_45 : decode cX9_least 45 = .ok (.ifCond .eq 6, 3) := by decide +kernel
theorem dX9_least_48 : decode cX9_least 48 = .ok (.ldc 206, 2) := by decide +kernel
theorem dX9_least_50 : decode cX9_least 50 = .ok (.ireturn, 1) := by decide +kernel
theorem dX9_least_51 : decode cX9_least 51 = .ok (.aload_n 0, 1) := by decide +kernel
theorem dX9_least_52 : decode cX9_least 52 = .ok (.getfield 28, 3) := by decide +kernel
theorem dX9_least_55 : decode cX9_least 55 = .ok (.iload_n 1, 1) := by decide +kernel
theorem dX9_least_56 : decode cX9_least 56 = .ok (.iload_n 2, 1) := by decide +kernel
theorem dX9_least_57 : decode cX9_least 57 = .ok (.invokevirtual 251, 3) := by decide +kernel
theorem dX9_least_60 : decode cX9_least 60 = .ok (.istore 4, 2) := by decide +kernel
theorem dX9_least_62 : decode cX9_least 62 = .ok (.iload 4, 2) := by decide +kernel
theorem dX9_least_64 : decode cX9_least 64 = .ok (.iconst (-1), 1) := by decide +kernel
theorem dX9_least_65 : decode cX9_least 65 = .ok (.if_icmp .eq 7, 3) := by decide +kernel
theorem dX9_least_68 : decode cX9_least 68 = .ok (.iload_n 3, 1) := by decide +kernel
theorem dX9_least_69 : decode cX9_least 69 = .ok (.ifCond .ne 8, 3) := by decide +kernel
theorem dX9_least_72 : decode cX9_least 72 = .ok (.iload 4, 2) := by decide +kernel
theorem dX9_least_74 : decode cX9_least 74 = .ok (.goto 13, 3) := by decide +kernel
theorem dX9_least_77 : decode cX9_least 77 = .ok (.aload_n 0, 1) := by decide +kernel
theorem dX9_least_78 : decode cX9_least 78 = .ok (.getfield 28, 3) := by decide +kernel
theorem dX9_least_81 : decode cX9_least 81 = .ok (.iload_n 1, 1) := by decide +kernel
theorem dX9_least_82 : decode cX9_least 82 = .ok (.iload 4, 2) := by decide +kernel
theorem dX9_least_84 : decode cX9_least 84 = .ok (.invokevirtual 254, 3) := by decide +kernel
theorem dX9_least_87 : decode cX9_least 87 = .ok (.ireturn, 1) := by decide +kernel
theorem dX9_plan_0 : decode cX9_plan 0 = .ok (.aload_n 0, 1) := by decide +kernel
theorem dX9_plan_1 : decode cX9_plan 1 = .ok (.getfield 19, 3) := by decide +kernel
theorem dX9_plan_4 : decode cX9_plan 4 = .ok (.iload_n 1, 1) := by decide +kernel
theorem dX9_plan_5 : decode cX9_plan 5 = .ok (.iload_n 2, 1) := by decide +kernel
theorem dX9_plan_6 : decode cX9_plan 6 = .ok (.invokevirtual 192, 3) := by decide +kernel
theorem dX9_plan_9 : decode cX9_plan 9 = .ok (.ifCond .ne 6, 3) := by decide +kernel
theorem dX9_plan_12 : decode cX9_plan 12 = .ok (.ldc 155, 2) := by decide +kernel
theorem dX9_plan_14 : decode cX9_plan 14 = .ok (.ireturn, 1) := by decide +kernel
theorem dX9_plan_15 : decode cX9_plan 15 = .ok (.iload_n 3, 1) := by decide +kernel
theorem dX9_plan_16 : decode cX9_plan 16 = .ok (.iconst 1, 1) := by decide +kernel
theorem dX9_plan_17 : decode cX9_plan 17 = .ok (.if_icmp .lt 20, 3) := by decide +kernel
theorem dX9_plan_20 : decode cX9_plan 20 = .ok (.iload_n 3, 1) := by decide +kernel
theorem dX9_plan_21 : decode cX9_plan 21 = .ok (.bipush 8, 2) := by decide +kernel
theorem dX9_plan_23 : decode cX9_plan 23 = .ok (.if_icmp .gt 14, 3) := by decide +kernel
theorem dX9_plan_26 : decode cX9_plan 26 = .ok (.iload 4, 2) := by decide +kernel
theorem dX9_plan_28 : decode cX9_plan 28 = .ok (.ifCond .lt 9, 3) := by decide +kernel
theorem dX9_plan_31 : decode cX9_plan 31 = .ok (.iload 4, 2) := by decide +kernel
theorem dX9_plan_33 : decode cX9_plan 33 = .ok (.iconst 1, 1) := by decide +kernel
theorem dX9_plan_34 : decode cX9_plan 34 = .ok (.if_icmp .le 6, 3) := by decide +kernel
theorem dX9_plan_37 : decode cX9_plan 37 = .ok (.ldc 81, 2) := by decide +kernel
theorem dX9_plan_39 : decode cX9_plan 39 = .ok (.ireturn, 1) := by decide +kernel
theorem dX9_plan_40 : decode cX9_plan 40 = .ok (.aload_n 0, 1) := by decide +kernel
theorem dX9_plan_41 : decode cX9_plan 41 = .ok (.getfield 28, 3) := by decide +kernel
theorem dX9_plan_44 : decode cX9_plan 44 = .ok (.iload_n 2, 1) := by decide +kernel
theorem dX9_plan_45 : decode cX9_plan 45 = .ok (.invokevirtual 257, 3) := by decide +kernel
theorem dX9_plan_48 : decode cX9_plan 48 = .ok (.ifCond .ne 28, 3) := by decide +kernel
theorem dX9_plan_51 : decode cX9_plan 51 = .ok (.aload_n 0, 1) := by decide +kernel
theorem dX9_plan_52 : decode cX9_plan 52 = .ok (.getfield 52, 3) := by decide +kernel
theorem dX9_plan_55 : decode cX9_plan 55 = .ok (.aload_n 0, 1) := by decide +kernel
theorem dX9_plan_56 : decode cX9_plan 56 = .ok (.getfield 19, 3) := by decide +kernel
theorem dX9_plan_59 : decode cX9_plan 59 = .ok (.iload_n 2, 1) := by decide +kernel
theorem dX9_plan_60 : decode cX9_plan 60 = .ok (.aload_n 0, 1) := by decide +kernel
theorem dX9_plan_61 : decode cX9_plan 61 = .ok (.getfield 28, 3) := by decide +kernel
theorem dX9_plan_64 : decode cX9_plan 64 = .ok (.iload_n 1, 1) := by decide +kernel
theorem dX9_plan_65 : decode cX9_plan 65 = .ok (.iload_n 2, 1) := by decide +kernel
theorem dX9_plan_66 : decode cX9_plan 66 = .ok (.invokevirtual 196, 3) := by decide +kernel
theorem dX9_plan_69 : decode cX9_plan 69 = .ok (.iload_n 3, 1) := by decide +kernel
theorem dX9_plan_70 : decode cX9_plan 70 = .ok (.invokevirtual 260, 3) := by decide +kernel
theorem dX9_plan_73 : decode cX9_plan 73 = .ok (.ifCond .ne 5, 3) := by decide +kernel
theorem dX9_plan_76 : decode cX9_plan 76 = .ok (.iconst (-1), 1) := by decide +kernel
theorem dX9_plan_77 : decode cX9_plan 77 = .ok (.ireturn, 1) := by decide +kernel
theorem dX9_plan_78 : decode cX9_plan 78 = .ok (.iload 4, 2) := by decide +kernel
theorem dX9_plan_80 : decode cX9_plan 80 = .ok (.ifCond .ne 13, 3) := by decide +kernel
theorem dX9_plan_83 : decode cX9_plan 83 = .ok (.aload_n 0, 1) := by decide +kernel
theorem dX9_plan_84 : decode cX9_plan 84 = .ok (.getfield 52, 3) := by decide +kernel
theorem dX9_plan_87 : decode cX9_plan 87 = .ok (.getfield 264, 3) := by decide +kernel
theorem dX9_plan_90 : decode cX9_plan 90 = .ok (.goto 10, 3) := by decide +kernel
theorem dX9_plan_93 : decode cX9_plan 93 = .ok (.aload_n 0, 1) := by decide +kernel
theorem dX9_plan_94 : decode cX9_plan 94 = .ok (.getfield 52, 3) := by decide +kernel
theorem dX9_plan_97 : decode cX9_plan 97 = .ok (.getfield 267, 3) := by decide +kernel
theorem dX9_plan_100 : decode cX9_plan 100 = .ok (.ireturn, 1) := by decide +kernel
theorem dX9_matches_0 : decode cX9_matches 0 = .ok (.iload_n 1, 1) := by decide +kernel
theorem dX9_matches_1 : decode cX9_matches 1 = .ok (.iconst (-1), 1) := by decide +kernel
theorem dX9_matches_2 : decode cX9_matches 2 = .ok (.if_icmp .eq 17, 3) := by decide +kernel
theorem dX9_matches_5 : decode cX9_matches 5 = .ok (.aload_n 0, 1) := by decide +kernel
theorem dX9_matches_6 : decode cX9_matches 6 = .ok (.getfield 19, 3) := by decide +kernel
theorem dX9_matches_9 : decode cX9_matches 9 = .ok (.iload_n 1, 1) := by decide +kernel
theorem dX9_matches_10 : decode cX9_matches 10 = .ok (.invokevirtual 176, 3) := by decide +kernel
theorem dX9_matches_13 : decode cX9_matches 13 = .ok (.ifCond .ne 6, 3) := by decide +kernel
theorem dX9_matches_16 : decode cX9_matches 16 = .ok (.ldc 155, 2) := by decide +kernel
theorem dX9_matches_18 : decode cX9_matches 18 = .ok (.ireturn, 1) := by decide +kernel
theorem dX9_matches_19 : decode cX9_matches 19 = .ok (.aload_n 0, 1) := by decide +kernel
theorem dX9_matches_20 : decode cX9_matches 20 = .ok (.getfield 45, 3) := by decide +kernel
theorem dX9_matches_23 : decode cX9_matches 23 = .ok (.aload_n 0, 1) := by decide +kernel
theorem dX9_matches_24 : decode cX9_matches 24 = .ok (.getfield 28, 3) := by decide +kernel
theorem dX9_matches_27 : decode cX9_matches 27 = .ok (.invokevirtual 270, 3) := by decide +kernel
theorem dX9_matches_30 : decode cX9_matches 30 = .ok (.istore_n 2, 1) := by decide +kernel
theorem dX9_matches_31 : decode cX9_matches 31 = .ok (.iload_n 1, 1) := by decide +kernel
theorem dX9_matches_32 : decode cX9_matches 32 = .ok (.iconst (-1), 1) := by decide +kernel
theorem dX9_matches_33 : decode cX9_matches 33 = .ok (.if_icmp .ne 7, 3) := by decide +kernel
theorem dX9_matches_36 : decode cX9_matches 36 = .ok (.iload_n 2, 1) := by decide +kernel
theorem dX9_matches_37 : decode cX9_matches 37 = .ok (.goto 12, 3) := by decide +kernel
theorem dX9_matches_40 : decode cX9_matches 40 = .ok (.aload_n 0, 1) := by decide +kernel
theorem dX9_matches_41 : decode cX9_matches 41 = .ok (.getfield 45, 3) := by decide +kernel
theorem dX9_matches_44 : decode cX9_matches 44 = .ok (.getfield 274, 3) := by decide +kernel
theorem dX9_matches_47 : decode cX9_matches 47 = .ok (.iload_n 1, 1) := by decide +kernel
theorem dX9_matches_48 : decode cX9_matches 48 = .ok (.iaload, 1) := by decide +kernel
theorem dX9_matches_49 : decode cX9_matches 49 = .ok (.ireturn, 1) := by decide +kernel
theorem dX9_failing_0 : decode cX9_failing 0 = .ok (.aload_n 0, 1) := by decide +kernel
theorem dX9_failing_1 : decode cX9_failing 1 = .ok (.getfield 32, 3) := by decide +kernel
theorem dX9_failing_4 : decode cX9_failing 4 = .ok (.aload_n 0, 1) := by decide +kernel
theorem dX9_failing_5 : decode cX9_failing 5 = .ok (.getfield 28, 3) := by decide +kernel
theorem dX9_failing_8 : decode cX9_failing 8 = .ok (.invokevirtual 103, 3) := by decide +kernel
theorem dX9_failing_11 : decode cX9_failing 11 = .ok (.aload_n 0, 1) := by decide +kernel
theorem dX9_failing_12 : decode cX9_failing 12 = .ok (.getfield 32, 3) := by decide +kernel
theorem dX9_failing_15 : decode cX9_failing 15 = .ok (.invokevirtual 220, 3) := by decide +kernel
theorem dX9_failing_18 : decode cX9_failing 18 = .ok (.ireturn, 1) := by decide +kernel
theorem dX9_run_0 : decode cX9_run 0 = .ok (.iload_n 1, 1) := by decide +kernel
theorem dX9_run_1 : decode cX9_run 1 = .ok (.iconst 1, 1) := by decide +kernel
theorem dX9_run_2 : decode cX9_run 2 = .ok (.if_icmp .lt 9, 3) := by decide +kernel
theorem dX9_run_5 : decode cX9_run 5 = .ok (.iload_n 1, 1) := by decide +kernel
theorem dX9_run_6 : decode cX9_run 6 = .ok (.bipush 20, 2) := by decide +kernel
theorem dX9_run_8 : decode cX9_run 8 = .ok (.if_icmp .le 6, 3) := by decide +kernel
theorem dX9_run_11 : decode cX9_run 11 = .ok (.ldc 81, 2) := by decide +kernel
theorem dX9_run_13 : decode cX9_run 13 = .ok (.ireturn, 1) := by decide +kernel
theorem dX9_run_14 : decode cX9_run 14 = .ok (.aload_n 0, 1) := by decide +kernel
theorem dX9_run_15 : decode cX9_run 15 = .ok (.getfield 32, 3) := by decide +kernel
theorem dX9_run_18 : decode cX9_run 18 = .ok (.aload_n 0, 1) := by decide +kernel
theorem dX9_run_19 : decode cX9_run 19 = .ok (.getfield 28, 3) := by decide +kernel
theorem dX9_run_22 : decode cX9_run 22 = .ok (.invokevirtual 103, 3) := by decide +kernel
theorem dX9_run_25 : decode cX9_run 25 = .ok (.iconst 0, 1) := by decide +kernel
theorem dX9_run_26 : decode cX9_run 26 = .ok (.istore_n 2, 1) := by decide +kernel
theorem dX9_run_27 : decode cX9_run 27 = .ok (.iload_n 2, 1) := by decide +kernel
theorem dX9_run_28 : decode cX9_run 28 = .ok (.iload_n 1, 1) := by decide +kernel
theorem dX9_run_29 : decode cX9_run 29 = .ok (.if_icmp .ge 17, 3) := by decide +kernel
theorem dX9_run_32 : decode cX9_run 32 = .ok (.aload_n 0, 1) := by decide +kernel
theorem dX9_run_33 : decode cX9_run 33 = .ok (.getfield 32, 3) := by decide +kernel
theorem dX9_run_36 : decode cX9_run 36 = .ok (.invokevirtual 220, 3) := by decide +kernel
theorem dX9_run_39 : decode cX9_run 39 = .ok (.pop, 1) := by decide +kernel
theorem dX9_run_40 : decode cX9_run 40 = .ok (.iinc 2 1, 3) := by decide +kernel
theorem dX9_run_43 : decode cX9_run 43 = .ok (.goto (-16), 3) := by decide +kernel
theorem dX9_run_46 : decode cX9_run 46 = .ok (.aload_n 0, 1) := by decide +kernel
theorem dX9_run_47 : decode cX9_run 47 = .ok (.getfield 32, 3) := by decide +kernel
theorem dX9_run_50 : decode cX9_run 50 = .ok (.getfield 145, 3) := by decide +kernel
theorem dX9_run_53 : decode cX9_run 53 = .ok (.ireturn, 1) := by decide +kernel
theorem dX9_credit_0 : decode cX9_credit 0 = .ok (.aload_n 0, 1) := by decide +kernel
theorem dX9_credit_1 : decode cX9_credit 1 = .ok (.getfield 19, 3) := by decide +kernel
theorem dX9_credit_4 : decode cX9_credit 4 = .ok (.iload_n 1, 1) := by decide +kernel
theorem dX9_credit_5 : decode cX9_credit 5 = .ok (.iload_n 2, 1) := by decide +kernel
theorem dX9_credit_6 : decode cX9_credit 6 = .ok (.invokevirtual 192, 3) := by decide +kernel
theorem dX9_credit_9 : decode cX9_credit 9 = .ok (.ifCond .ne 6, 3) := by decide +kernel
theorem dX9_credit_12 : decode cX9_credit 12 = .ok (.ldc 155, 2) := by decide +kernel
theorem dX9_credit_14 : decode cX9_credit 14 = .ok (.ireturn, 1) := by decide +kernel
theorem dX9_credit_15 : decode cX9_credit 15 = .ok (.aload_n 0, 1) := by decide +kernel
theorem dX9_credit_16 : decode cX9_credit 16 = .ok (.getfield 28, 3) := by decide +kernel
theorem dX9_credit_19 : decode cX9_credit 19 = .ok (.iload_n 1, 1) := by decide +kernel
theorem dX9_credit_20 : decode cX9_credit 20 = .ok (.iload_n 2, 1) := by decide +kernel
theorem dX9_credit_21 : decode cX9_credit 21 = .ok (.invokevirtual 196, 3) := by decide +kernel
theorem dX9_credit_24 : decode cX9_credit 24 = .ok (.istore_n 3, 1) := by decide +kernel
theorem dX9_credit_25 : decode cX9_credit 25 = .ok (.aload_n 0, 1) := by decide +kernel
theorem dX9_credit_26 : decode cX9_credit 26 = .ok (.getfield 28, 3) := by decide +kernel
theorem dX9_credit_29 : decode cX9_credit 29 = .ok (.getfield 156, 3) := by decide +kernel
theorem dX9_credit_32 : decode cX9_credit 32 = .ok (.iload_n 2, 1) := by decide +kernel
theorem dX9_credit_33 : decode cX9_credit 33 = .ok (.iaload, 1) := by decide +kernel
theorem dX9_credit_34 : decode cX9_credit 34 = .ok (.aload_n 0, 1) := by decide +kernel
theorem dX9_credit_35 : decode cX9_credit 35 = .ok (.getfield 19, 3) := by decide +kernel
theorem dX9_credit_38 : decode cX9_credit 38 = .ok (.getfield 163, 3) := by decide +kernel
theorem dX9_credit_41 : decode cX9_credit 41 = .ok (.iload_n 2, 1) := by decide +kernel
theorem dX9_credit_42 : decode cX9_credit 42 = .ok (.iaload, 1) := by decide +kernel
theorem dX9_credit_43 : decode cX9_credit 43 = .ok (.iload_n 3, 1) := by decide +kernel
theorem dX9_credit_44 : decode cX9_credit 44 = .ok (.isub, 1) := by decide +kernel
theorem dX9_credit_45 : decode cX9_credit 45 = .ok (.invokestatic 277, 3) := by decide +kernel
theorem dX9_credit_48 : decode cX9_credit 48 = .ok (.istore 4, 2) := by decide +kernel
theorem dX9_credit_50 : decode cX9_credit 50 = .ok (.iload 4, 2) := by decide +kernel
theorem dX9_credit_52 : decode cX9_credit 52 = .ok (.ifCond .lt 22, 3) := by decide +kernel
theorem dX9_credit_55 : decode cX9_credit 55 = .ok (.iload 4, 2) := by decide +kernel
theorem dX9_credit_57 : decode cX9_credit 57 = .ok (.ifCond .le 19, 3) := by decide +kernel
theorem dX9_credit_60 : decode cX9_credit 60 = .ok (.aload_n 0, 1) := by decide +kernel
theorem dX9_credit_61 : decode cX9_credit 61 = .ok (.getfield 28, 3) := by decide +kernel
theorem dX9_credit_64 : decode cX9_credit 64 = .ok (.iload_n 1, 1) := by decide +kernel
theorem dX9_credit_65 : decode cX9_credit 65 = .ok (.iload_n 2, 1) := by decide +kernel
theorem dX9_credit_66 : decode cX9_credit 66 = .ok (.iload 4, 2) := by decide +kernel
theorem dX9_credit_68 : decode cX9_credit 68 = .ok (.invokevirtual 202, 3) := by decide +kernel
theorem dX9_credit_71 : decode cX9_credit 71 = .ok (.ifCond .ne 5, 3) := by decide +kernel
theorem dX9_credit_74 : decode cX9_credit 74 = .ok (.iconst (-1), 1) := by decide +kernel
theorem dX9_credit_75 : decode cX9_credit 75 = .ok (.ireturn, 1) := by decide +kernel
theorem dX9_credit_76 : decode cX9_credit 76 = .ok (.aload_n 0, 1) := by decide +kernel
theorem dX9_credit_77 : decode cX9_credit 77 = .ok (.getfield 28, 3) := by decide +kernel
theorem dX9_credit_80 : decode cX9_credit 80 = .ok (.iload_n 2, 1) := by decide +kernel
theorem dX9_credit_81 : decode cX9_credit 81 = .ok (.iload_n 3, 1) := by decide +kernel
theorem dX9_credit_82 : decode cX9_credit 82 = .ok (.iload 4, 2) := by decide +kernel
theorem dX9_credit_84 : decode cX9_credit 84 = .ok (.iadd, 1) := by decide +kernel
theorem dX9_credit_85 : decode cX9_credit 85 = .ok (.aload_n 0, 1) := by decide +kernel
theorem dX9_credit_86 : decode cX9_credit 86 = .ok (.getfield 28, 3) := by decide +kernel
theorem dX9_credit_89 : decode cX9_credit 89 = .ok (.iload_n 1, 1) := by decide +kernel
theorem dX9_credit_90 : decode cX9_credit 90 = .ok (.iload_n 2, 1) := by decide +kernel
theorem dX9_credit_91 : decode cX9_credit 91 = .ok (.invokevirtual 282, 3) := by decide +kernel
theorem dX9_credit_94 : decode cX9_credit 94 = .ok (.invokevirtual 285, 3) := by decide +kernel
theorem dX9_credit_97 : decode cX9_credit 97 = .ok (.iconst 1, 1) := by decide +kernel
theorem dX9_credit_98 : decode cX9_credit 98 = .ok (.if_icmp .ne 8, 3) := by decide +kernel
theorem dX9_credit_101 : decode cX9_credit 101 = .ok (.iload 4, 2) := by decide +kernel
theorem dX9_credit_103 : decode cX9_credit 103 = .ok (.goto 4, 3) := by decide +kernel
theorem dX9_credit_106 : decode cX9_credit 106 = .ok (.iconst (-1), 1) := by decide +kernel
theorem dX9_credit_107 : decode cX9_credit 107 = .ok (.ireturn, 1) := by decide +kernel
theorem dX9_rumours_0 : decode cX9_rumours 0 = .ok (.iload_n 1, 1) := by decide +kernel
theorem dX9_rumours_1 : decode cX9_rumours 1 = .ok (.ifCond .lt 19, 3) := by decide +kernel
theorem dX9_rumours_4 : decode cX9_rumours 4 = .ok (.iload_n 1, 1) := by decide +kernel
theorem dX9_rumours_5 : decode cX9_rumours 5 = .ok (.bipush 60, 2) := by decide +kernel
theorem dX9_rumours_7 : decode cX9_rumours 7 = .ok (.if_icmp .gt 13, 3) := by decide +kernel
theorem dX9_rumours_10 : decode cX9_rumours 10 = .ok (.iload_n 2, 1) := by decide +kernel
theorem dX9_rumours_11 : decode cX9_rumours 11 = .ok (.ifCond .lt 9, 3) := by decide +kernel
theorem dX9_rumours_14 : decode cX9_rumours 14 = .ok (.iload_n 2, 1) := by decide +kernel
theorem dX9_rumours_15 : decode cX9_rumours 15 = .ok (.bipush 100, 2) := by decide +kernel
theorem dX9_rumours_17 : decode cX9_rumours 17 = .ok (.if_icmp .le 6, 3) := by decide +kernel
theorem dX9_rumours_20 : decode cX9_rumours 20 = .ok (.ldc 81, 2) := by decide +kernel
theorem dX9_rumours_22 : decode cX9_rumours 22 = .ok (.ireturn, 1) := by decide +kernel
theorem dX9_rumours_23 : decode cX9_rumours 23 = .ok (.ldc2_w 289, 3) := by decide +kernel
theorem dX9_rumours_26 : decode cX9_rumours 26 = .ok (.lstore_n 3, 1) := by decide +kernel
theorem dX9_rumours_27 : decode cX9_rumours 27 = .ok (.iconst 0, 1) := by decide +kernel
theorem dX9_rumours_28 : decode cX9_rumours 28 = .ok (.istore 5, 2) := by decide +kernel
theorem dX9_rumours_30 : decode cX9_rumours 30 = .ok (.iload 5, 2) := by decide +kernel
theorem dX9_rumours_32 : decode cX9_rumours 32 = .ok (.iload_n 1, 1) := by decide +kernel
theorem dX9_rumours_33 : decode cX9_rumours 33 = .ok (.if_icmp .ge 21, 3) := by decide +kernel
