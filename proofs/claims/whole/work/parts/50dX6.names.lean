theorem dX6_init_0 : decode cX6_init 0 = .ok (.aload_n 0, 1) := by decide +kernel
theorem dX6_init_1 : decode cX6_init 1 = .ok (.invokespecial 3, 3) := by decide +kernel
theorem dX6_init_4 : decode cX6_init 4 = .ok (.aload_n 0, 1) := by decide +kernel
theorem dX6_init_5 : decode cX6_init 5 = .ok (.new 9, 3) := by decide +kernel
theorem dX6_init_8 : decode cX6_init 8 = .ok (.dup, 1) := by decide +kernel
theorem dX6_init_9 : decode cX6_init 9 = .ok (.invokespecial 11, 3) := by decide +kernel
theorem dX6_init_12 : decode cX6_init 12 = .ok (.putfield 12, 3) := by decide +kernel
theorem dX6_init_15 : decode cX6_init 15 = .ok (.aload_n 0, 1) := by decide +kernel
theorem dX6_init_16 : decode cX6_init 16 = .ok (.new 18, 3) := by decide +kernel
theorem dX6_init_19 : decode cX6_init 19 = .ok (.dup, 1) := by decide +kernel
theorem dX6_init_20 : decode cX6_init 20 = .ok (.aload_n 0, 1) := by decide +kernel
theorem dX6_init_21 : decode cX6_init 21 = .ok (.getfield 12, 3) := by decide +kernel
theorem dX6_init_24 : decode cX6_init 24 = .ok (.invokespecial 20, 3) := by decide +kernel
theorem dX6_init_27 : decode cX6_init 27 = .ok (.putfield 23, 3) := by decide +kernel
theorem dX6_init_30 : decode cX6_init 30 = .ok (.aload_n 0, 1) := by decide +kernel
theorem dX6_init_31 : decode cX6_init 31 = .ok (.sipush 240, 3) := by decide +kernel
theorem dX6_init_34 : decode cX6_init 34 = .ok (.newarray .int, 2) := by decide +kernel
theorem dX6_init_36 : decode cX6_init 36 = .ok (.putfield 27, 3) := by decide +kernel
theorem dX6_init_39 : decode cX6_init 39 = .ok (.aload_n 0, 1) := by decide +kernel
theorem dX6_init_40 : decode cX6_init 40 = .ok (.iconst (-1), 1) := by decide +kernel
theorem dX6_init_41 : decode cX6_init 41 = .ok (.putfield 31, 3) := by decide +kernel
theorem dX6_init_44 : decode cX6_init 44 = .ok (.return_, 1) := by decide +kernel
theorem dX6_add_0 : decode cX6_add 0 = .ok (.aload_n 0, 1) := by decide +kernel
theorem dX6_add_1 : decode cX6_add 1 = .ok (.getfield 35, 3) := by decide +kernel
theorem dX6_add_4 : decode cX6_add 4 = .ok (.sipush 240, 3) := by decide +kernel
theorem dX6_add_7 : decode cX6_add 7 = .ok (.if_icmp .lt 5, 3) := by decide +kernel
theorem dX6_add_10 : decode cX6_add 10 = .ok (.iconst 0, 1) := by decide +kernel
theorem dX6_add_11 : decode cX6_add 11 = .ok (.ireturn, 1) := by decide +kernel
theorem dX6_add_12 : decode cX6_add 12 = .ok (.aload_n 0, 1) := by decide +kernel
theorem dX6_add_13 : decode cX6_add 13 = .ok (.getfield 27, 3) := by decide +kernel
theorem dX6_add_16 : decode cX6_add 16 = .ok (.aload_n 0, 1) := by decide +kernel
theorem dX6_add_17 : decode cX6_add 17 = .ok (.getfield 35, 3) := by decide +kernel
theorem dX6_add_20 : decode cX6_add 20 = .ok (.iload_n 1, 1) := by decide +kernel
theorem dX6_add_21 : decode cX6_add 21 = .ok (.iastore, 1) := by decide +kernel
theorem dX6_add_22 : decode cX6_add 22 = .ok (.aload_n 0, 1) := by decide +kernel
theorem dX6_add_23 : decode cX6_add 23 = .ok (.dup, 1) := by decide +kernel
theorem dX6_add_24 : decode cX6_add 24 = .ok (.getfield 35, 3) := by decide +kernel
theorem dX6_add_27 : decode cX6_add 27 = .ok (.iconst 1, 1) := by decide +kernel
theorem dX6_add_28 : decode cX6_add 28 = .ok (.iadd, 1) := by decide +kernel
theorem dX6_add_29 : decode cX6_add 29 = .ok (.putfield 35, 3) := by decide +kernel
theorem dX6_add_32 : decode cX6_add 32 = .ok (.iconst 1, 1) := by decide +kernel
theorem dX6_add_33 : decode cX6_add 33 = .ok (.ireturn, 1) := by decide +kernel
theorem dX6_readAll_0 : decode cX6_readAll 0 = .ok (.aload_n 0, 1) := by decide +kernel
theorem dX6_readAll_1 : decode cX6_readAll 1 = .ok (.getfield 12, 3) := by decide +kernel
theorem dX6_readAll_4 : decode cX6_readAll 4 = .ok (.invokevirtual 38, 3) := by decide +kernel
theorem dX6_readAll_7 : decode cX6_readAll 7 = .ok (.aload_n 0, 1) := by decide +kernel
theorem dX6_readAll_8 : decode cX6_readAll 8 = .ok (.getfield 23, 3) := by decide +kernel
theorem dX6_readAll_11 : decode cX6_readAll 11 = .ok (.invokevirtual 41, 3) := by decide +kernel
theorem dX6_readAll_14 : decode cX6_readAll 14 = .ok (.aload_n 0, 1) := by decide +kernel
theorem dX6_readAll_15 : decode cX6_readAll 15 = .ok (.iconst 0, 1) := by decide +kernel
theorem dX6_readAll_16 : decode cX6_readAll 16 = .ok (.putfield 42, 3) := by decide +kernel
theorem dX6_readAll_19 : decode cX6_readAll 19 = .ok (.aload_n 0, 1) := by decide +kernel
theorem dX6_readAll_20 : decode cX6_readAll 20 = .ok (.iconst (-1), 1) := by decide +kernel
theorem dX6_readAll_21 : decode cX6_readAll 21 = .ok (.putfield 31, 3) := by decide +kernel
theorem dX6_readAll_24 : decode cX6_readAll 24 = .ok (.aload_n 0, 1) := by decide +kernel
theorem dX6_readAll_25 : decode cX6_readAll 25 = .ok (.iconst 0, 1) := by decide +kernel
theorem dX6_readAll_26 : decode cX6_readAll 26 = .ok (.putfield 45, 3) := by decide +kernel
theorem dX6_readAll_29 : decode cX6_readAll 29 = .ok (.aload_n 0, 1) := by decide +kernel
theorem dX6_readAll_30 : decode cX6_readAll 30 = .ok (.invokevirtual 48, 3) := by decide +kernel
theorem dX6_readAll_33 : decode cX6_readAll 33 = .ok (.iconst (-1), 1) := by decide +kernel
theorem dX6_readAll_34 : decode cX6_readAll 34 = .ok (.if_icmp .eq 19, 3) := by decide +kernel
theorem dX6_readAll_37 : decode cX6_readAll 37 = .ok (.aload_n 0, 1) := by decide +kernel
theorem dX6_readAll_38 : decode cX6_readAll 38 = .ok (.getfield 12, 3) := by decide +kernel
theorem dX6_readAll_41 : decode cX6_readAll 41 = .ok (.iconst 1, 1) := by decide +kernel
theorem dX6_readAll_42 : decode cX6_readAll 42 = .ok (.putfield 52, 3) := by decide +kernel
theorem dX6_readAll_45 : decode cX6_readAll 45 = .ok (.aload_n 0, 1) := by decide +kernel
theorem dX6_readAll_46 : decode cX6_readAll 46 = .ok (.invokevirtual 56, 3) := by decide +kernel
theorem dX6_readAll_49 : decode cX6_readAll 49 = .ok (.aload_n 0, 1) := by decide +kernel
theorem dX6_readAll_50 : decode cX6_readAll 50 = .ok (.invokevirtual 59, 3) := by decide +kernel
theorem dX6_readAll_53 : decode cX6_readAll 53 = .ok (.aload_n 0, 1) := by decide +kernel
theorem dX6_readAll_54 : decode cX6_readAll 54 = .ok (.iconst 0, 1) := by decide +kernel
theorem dX6_readAll_55 : decode cX6_readAll 55 = .ok (.putfield 35, 3) := by decide +kernel
theorem dX6_readAll_58 : decode cX6_readAll 58 = .ok (.return_, 1) := by decide +kernel
theorem dX6_readInterest_0 : decode cX6_readInterest 0 = .ok (.aload_n 0, 1) := by decide +kernel
theorem dX6_readInterest_1 : decode cX6_readInterest 1 = .ok (.invokevirtual 48, 3) := by decide +kernel
theorem dX6_readInterest_4 : decode cX6_readInterest 4 = .ok (.bipush 105, 2) := by decide +kernel
theorem dX6_readInterest_6 : decode cX6_readInterest 6 = .ok (.if_icmp .eq 13, 3) := by decide +kernel
theorem dX6_readInterest_9 : decode cX6_readInterest 9 = .ok (.aload_n 0, 1) := by decide +kernel
theorem dX6_readInterest_10 : decode cX6_readInterest 10 = .ok (.iconst 1, 1) := by decide +kernel
theorem dX6_readInterest_11 : decode cX6_readInterest 11 = .ok (.aload_n 0, 1) := by decide +kernel
theorem dX6_readInterest_12 : decode cX6_readInterest 12 = .ok (.getfield 45, 3) := by decide +kernel
theorem dX6_readInterest_15 : decode cX6_readInterest 15 = .ok (.invokevirtual 62, 3) := by decide +kernel
theorem dX6_readInterest_18 : decode cX6_readInterest 18 = .ok (.return_, 1) := by decide +kernel
theorem dX6_readInterest_19 : decode cX6_readInterest 19 = .ok (.aload_n 0, 1) := by decide +kernel
theorem dX6_readInterest_20 : decode cX6_readInterest 20 = .ok (.dup, 1) := by decide +kernel
theorem dX6_readInterest_21 : decode cX6_readInterest 21 = .ok (.getfield 45, 3) := by decide +kernel
theorem dX6_readInterest_24 : decode cX6_readInterest 24 = .ok (.iconst 1, 1) := by decide +kernel
theorem dX6_readInterest_25 : decode cX6_readInterest 25 = .ok (.iadd, 1) := by decide +kernel
theorem dX6_readInterest_26 : decode cX6_readInterest 26 = .ok (.putfield 45, 3) := by decide +kernel
theorem dX6_readInterest_29 : decode cX6_readInterest 29 = .ok (.aload_n 0, 1) := by decide +kernel
theorem dX6_readInterest_30 : decode cX6_readInterest 30 = .ok (.getfield 12, 3) := by decide +kernel
theorem dX6_readInterest_33 : decode cX6_readInterest 33 = .ok (.aload_n 0, 1) := by decide +kernel
theorem dX6_readInterest_34 : decode cX6_readInterest 34 = .ok (.iconst 0, 1) := by decide +kernel
theorem dX6_readInterest_35 : decode cX6_readInterest 35 = .ok (.bipush 30, 2) := by decide +kernel
theorem dX6_readInterest_37 : decode cX6_readInterest 37 = .ok (.invokevirtual 66, 3) := by decide +kernel
theorem dX6_readInterest_40 : decode cX6_readInterest 40 = .ok (.putfield 70, 3) := by decide +kernel
theorem dX6_readInterest_43 : decode cX6_readInterest 43 = .ok (.aload_n 0, 1) := by decide +kernel
theorem dX6_readInterest_44 : decode cX6_readInterest 44 = .ok (.getfield 12, 3) := by decide +kernel
theorem dX6_readInterest_47 : decode cX6_readInterest 47 = .ok (.aload_n 0, 1) := by decide +kernel
theorem dX6_readInterest_48 : decode cX6_readInterest 48 = .ok (.iconst 0, 1) := by decide +kernel
theorem dX6_readInterest_49 : decode cX6_readInterest 49 = .ok (.bipush 100, 2) := by decide +kernel
theorem dX6_readInterest_51 : decode cX6_readInterest 51 = .ok (.invokevirtual 66, 3) := by decide +kernel
theorem dX6_readInterest_54 : decode cX6_readInterest 54 = .ok (.putfield 73, 3) := by decide +kernel
theorem dX6_readInterest_57 : decode cX6_readInterest 57 = .ok (.aload_n 0, 1) := by decide +kernel
theorem dX6_readInterest_58 : decode cX6_readInterest 58 = .ok (.bipush 59, 2) := by decide +kernel
theorem dX6_readInterest_60 : decode cX6_readInterest 60 = .ok (.invokevirtual 76, 3) := by decide +kernel
theorem dX6_readInterest_63 : decode cX6_readInterest 63 = .ok (.return_, 1) := by decide +kernel
theorem dX6_readOthers_0 : decode cX6_readOthers 0 = .ok (.iconst 0, 1) := by decide +kernel
theorem dX6_readOthers_1 : decode cX6_readOthers 1 = .ok (.istore_n 1, 1) := by decide +kernel
theorem dX6_readOthers_2 : decode cX6_readOthers 2 = .ok (.iload_n 1, 1) := by decide +kernel
theorem dX6_readOthers_3 : decode cX6_readOthers 3 = .ok (.sipush 240, 3) := by decide +kernel
theorem dX6_readOthers_6 : decode cX6_readOthers 6 = .ok (.if_icmp .ge 32, 3) := by decide +kernel
theorem dX6_readOthers_9 : decode cX6_readOthers 9 = .ok (.aload_n 0, 1) := by decide +kernel
theorem dX6_readOthers_10 : decode cX6_readOthers 10 = .ok (.getfield 42, 3) := by decide +kernel
theorem dX6_readOthers_13 : decode cX6_readOthers 13 = .ok (.ifCond .ne 25, 3) := by decide +kernel
theorem dX6_readOthers_16 : decode cX6_readOthers 16 = .ok (.aload_n 0, 1) := by decide +kernel
theorem dX6_readOthers_17 : decode cX6_readOthers 17 = .ok (.invokevirtual 48, 3) := by decide +kernel
theorem dX6_readOthers_20 : decode cX6_readOthers 20 = .ok (.istore_n 2, 1) := by decide +kernel
theorem dX6_readOthers_21 : decode cX6_readOthers 21 = .ok (.iload_n 2, 1) := by decide +kernel
theorem dX6_readOthers_22 : decode cX6_readOthers 22 = .ok (.iconst (-1), 1) := by decide +kernel
theorem dX6_readOthers_23 : decode cX6_readOthers 23 = .ok (.if_icmp .ne 4, 3) := by decide +kernel
theorem dX6_readOthers_26 : decode cX6_readOthers 26 = .ok (.return_, 1) := by decide +kernel
theorem dX6_readOthers_27 : decode cX6_readOthers 27 = .ok (.aload_n 0, 1) := by decide +kernel
theorem dX6_readOthers_28 : decode cX6_readOthers 28 = .ok (.iload_n 2, 1) := by decide +kernel
theorem dX6_readOthers_29 : decode cX6_readOthers 29 = .ok (.invokevirtual 80, 3) := by decide +kernel
theorem dX6_readOthers_32 : decode cX6_readOthers 32 = .ok (.iinc 1 1, 3) := by decide +kernel
theorem dX6_readOthers_35 : decode cX6_readOthers 35 = .ok (.goto (-33), 3) := by decide +kernel
theorem dX6_readOthers_38 : decode cX6_readOthers 38 = .ok (.return_, 1) := by decide +kernel
theorem dX6_readClause_0 : decode cX6_readClause 0 = .ok (.iload_n 1, 1) := by decide +kernel
theorem dX6_readClause_1 : decode cX6_readClause 1 = .ok (.bipush 99, 2) := by decide +kernel
theorem dX6_readClause_3 : decode cX6_readClause 3 = .ok (.if_icmp .ne 10, 3) := by decide +kernel
theorem dX6_readClause_6 : decode cX6_readClause 6 = .ok (.aload_n 0, 1) := by decide +kernel
theorem dX6_readClause_7 : decode cX6_readClause 7 = .ok (.invokevirtual 83, 3) := by decide +kernel
theorem dX6_readClause_10 : decode cX6_readClause 10 = .ok (.goto 52, 3) := by decide +kernel
theorem dX6_readClause_13 : decode cX6_readClause 13 = .ok (.iload_n 1, 1) := by decide +kernel
theorem dX6_readClause_14 : decode cX6_readClause 14 = .ok (.bipush 103, 2) := by decide +kernel
theorem dX6_readClause_16 : decode cX6_readClause 16 = .ok (.if_icmp .eq 9, 3) := by decide +kernel
theorem dX6_readClause_19 : decode cX6_readClause 19 = .ok (.iload_n 1, 1) := by decide +kernel
theorem dX6_readClause_20 : decode cX6_readClause 20 = .ok (.bipush 109, 2) := by decide +kernel
theorem dX6_readClause_22 : decode cX6_readClause 22 = .ok (.if_icmp .ne 21, 3) := by decide +kernel
theorem dX6_readClause_25 : decode cX6_readClause 25 = .ok (.aload_n 0, 1) := by decide +kernel
theorem dX6_readClause_26 : decode cX6_readClause 26 = .ok (.iload_n 1, 1) := by decide +kernel
theorem dX6_readClause_27 : decode cX6_readClause 27 = .ok (.bipush 103, 2) := by decide +kernel
theorem dX6_readClause_29 : decode cX6_readClause 29 = .ok (.if_icmp .ne 7, 3) := by decide +kernel
theorem dX6_readClause_32 : decode cX6_readClause 32 = .ok (.iconst 1, 1) := by decide +kernel
theorem dX6_readClause_33 : decode cX6_readClause 33 = .ok (.goto 4, 3) := by decide +kernel
theorem dX6_readClause_36 : decode cX6_readClause 36 = .ok (.iconst 0, 1) := by decide +kernel
theorem dX6_readClause_37 : decode cX6_readClause 37 = .ok (.invokevirtual 86, 3) := by decide +kernel
theorem dX6_readClause_40 : decode cX6_readClause 40 = .ok (.goto 22, 3) := by decide +kernel
theorem dX6_readClause_43 : decode cX6_readClause 43 = .ok (.aload_n 0, 1) := by decide +kernel
theorem dX6_readClause_44 : decode cX6_readClause 44 = .ok (.iload_n 1, 1) := by decide +kernel
theorem dX6_readClause_45 : decode cX6_readClause 45 = .ok (.bipush 105, 2) := by decide +kernel
theorem dX6_readClause_47 : decode cX6_readClause 47 = .ok (.if_icmp .ne 7, 3) := by decide +kernel
theorem dX6_readClause_50 : decode cX6_readClause 50 = .ok (.iconst 3, 1) := by decide +kernel
theorem dX6_readClause_51 : decode cX6_readClause 51 = .ok (.goto 4, 3) := by decide +kernel
theorem dX6_readClause_54 : decode cX6_readClause 54 = .ok (.iconst 1, 1) := by decide +kernel
theorem dX6_readClause_55 : decode cX6_readClause 55 = .ok (.aload_n 0, 1) := by decide +kernel
theorem dX6_readClause_56 : decode cX6_readClause 56 = .ok (.getfield 45, 3) := by decide +kernel
theorem dX6_readClause_59 : decode cX6_readClause 59 = .ok (.invokevirtual 62, 3) := by decide +kernel
theorem dX6_readClause_62 : decode cX6_readClause 62 = .ok (.return_, 1) := by decide +kernel
theorem dX6_readCreditor_0 : decode cX6_readCreditor 0 = .ok (.aload_n 0, 1) := by decide +kernel
theorem dX6_readCreditor_1 : decode cX6_readCreditor 1 = .ok (.getfield 12, 3) := by decide +kernel
theorem dX6_readCreditor_4 : decode cX6_readCreditor 4 = .ok (.getfield 90, 3) := by decide +kernel
theorem dX6_readCreditor_7 : decode cX6_readCreditor 7 = .ok (.istore_n 1, 1) := by decide +kernel
theorem dX6_readCreditor_8 : decode cX6_readCreditor 8 = .ok (.iload_n 1, 1) := by decide +kernel
theorem dX6_readCreditor_9 : decode cX6_readCreditor 9 = .ok (.iconst 4, 1) := by decide +kernel
theorem dX6_readCreditor_10 : decode cX6_readCreditor 10 = .ok (.if_icmp .ge 13, 3) := by decide +kernel
theorem dX6_readCreditor_13 : decode cX6_readCreditor 13 = .ok (.aload_n 0, 1) := by decide +kernel
theorem dX6_readCreditor_14 : decode cX6_readCreditor 14 = .ok (.getfield 12, 3) := by decide +kernel
theorem dX6_readCreditor_17 : decode cX6_readCreditor 17 = .ok (.getfield 93, 3) := by decide +kernel
theorem dX6_readCreditor_20 : decode cX6_readCreditor 20 = .ok (.ifCond .le 13, 3) := by decide +kernel
theorem dX6_readCreditor_23 : decode cX6_readCreditor 23 = .ok (.aload_n 0, 1) := by decide +kernel
theorem dX6_readCreditor_24 : decode cX6_readCreditor 24 = .ok (.iconst 3, 1) := by decide +kernel
theorem dX6_readCreditor_25 : decode cX6_readCreditor 25 = .ok (.aload_n 0, 1) := by decide +kernel
theorem dX6_readCreditor_26 : decode cX6_readCreditor 26 = .ok (.getfield 45, 3) := by decide +kernel
theorem dX6_readCreditor_29 : decode cX6_readCreditor 29 = .ok (.invokevirtual 62, 3) := by decide +kernel
theorem dX6_readCreditor_32 : decode cX6_readCreditor 32 = .ok (.return_, 1) := by decide +kernel
theorem dX6_readCreditor_33 : decode cX6_readCreditor 33 = .ok (.aload_n 0, 1) := by decide +kernel
theorem dX6_readCreditor_34 : decode cX6_readCreditor 34 = .ok (.dup, 1) := by decide +kernel
theorem dX6_readCreditor_35 : decode cX6_readCreditor 35 = .ok (.getfield 45, 3) := by decide +kernel
theorem dX6_readCreditor_38 : decode cX6_readCreditor 38 = .ok (.iconst 1, 1) := by decide +kernel
theorem dX6_readCreditor_39 : decode cX6_readCreditor 39 = .ok (.iadd, 1) := by decide +kernel
theorem dX6_readCreditor_40 : decode cX6_readCreditor 40 = .ok (.putfield 45, 3) := by decide +kernel
theorem dX6_readCreditor_43 : decode cX6_readCreditor 43 = .ok (.aload_n 0, 1) := by decide +kernel
theorem dX6_readCreditor_44 : decode cX6_readCreditor 44 = .ok (.getfield 23, 3) := by decide +kernel
theorem dX6_readCreditor_47 : decode cX6_readCreditor 47 = .ok (.getfield 96, 3) := by decide +kernel
theorem dX6_readCreditor_50 : decode cX6_readCreditor 50 = .ok (.iload_n 1, 1) := by decide +kernel
theorem dX6_readCreditor_51 : decode cX6_readCreditor 51 = .ok (.aload_n 0, 1) := by decide +kernel
theorem dX6_readCreditor_52 : decode cX6_readCreditor 52 = .ok (.iconst 0, 1) := by decide +kernel
theorem dX6_readCreditor_53 : decode cX6_readCreditor 53 = .ok (.sipush 999, 3) := by decide +kernel
theorem dX6_readCreditor_56 : decode cX6_readCreditor 56 = .ok (.invokevirtual 66, 3) := by decide +kernel
theorem dX6_readCreditor_59 : decode cX6_readCreditor 59 = .ok (.iastore, 1) := by decide +kernel
theorem dX6_readCreditor_60 : decode cX6_readCreditor 60 = .ok (.aload_n 0, 1) := by decide +kernel
theorem dX6_readCreditor_61 : decode cX6_readCreditor 61 = .ok (.getfield 12, 3) := by decide +kernel
theorem dX6_readCreditor_64 : decode cX6_readCreditor 64 = .ok (.getfield 99, 3) := by decide +kernel
theorem dX6_readCreditor_67 : decode cX6_readCreditor 67 = .ok (.iload_n 1, 1) := by decide +kernel
theorem dX6_readCreditor_68 : decode cX6_readCreditor 68 = .ok (.aload_n 0, 1) := by decide +kernel
theorem dX6_readCreditor_69 : decode cX6_readCreditor 69 = .ok (.iconst 1, 1) := by decide +kernel
theorem dX6_readCreditor_70 : decode cX6_readCreditor 70 = .ok (.sipush 999, 3) := by decide +kernel
theorem dX6_readCreditor_73 : decode cX6_readCreditor 73 = .ok (.invokevirtual 66, 3) := by decide +kernel
theorem dX6_readCreditor_76 : decode cX6_readCreditor 76 = .ok (.iastore, 1) := by decide +kernel
theorem dX6_readCreditor_77 : decode cX6_readCreditor 77 = .ok (.aload_n 0, 1) := by decide +kernel
theorem dX6_readCreditor_78 : decode cX6_readCreditor 78 = .ok (.getfield 12, 3) := by decide +kernel
theorem dX6_readCreditor_81 : decode cX6_readCreditor 81 = .ok (.getfield 102, 3) := by decide +kernel
theorem dX6_readCreditor_84 : decode cX6_readCreditor 84 = .ok (.iload_n 1, 1) := by decide +kernel
theorem dX6_readCreditor_85 : decode cX6_readCreditor 85 = .ok (.aload_n 0, 1) := by decide +kernel
theorem dX6_readCreditor_86 : decode cX6_readCreditor 86 = .ok (.iconst 1, 1) := by decide +kernel
theorem dX6_readCreditor_87 : decode cX6_readCreditor 87 = .ok (.sipush 999, 3) := by decide +kernel
theorem dX6_readCreditor_90 : decode cX6_readCreditor 90 = .ok (.invokevirtual 66, 3) := by decide +kernel
theorem dX6_readCreditor_93 : decode cX6_readCreditor 93 = .ok (.iastore, 1) := by decide +kernel
theorem dX6_readCreditor_94 : decode cX6_readCreditor 94 = .ok (.aload_n 0, 1) := by decide +kernel
theorem dX6_readCreditor_95 : decode cX6_readCreditor 95 = .ok (.getfield 12, 3) := by decide +kernel
theorem dX6_readCreditor_98 : decode cX6_readCreditor 98 = .ok (.getfield 102, 3) := by decide +kernel
theorem dX6_readCreditor_101 : decode cX6_readCreditor 101 = .ok (.iload_n 1, 1) := by decide +kernel
theorem dX6_readCreditor_102 : decode cX6_readCreditor 102 = .ok (.iaload, 1) := by decide +kernel
theorem dX6_readCreditor_103 : decode cX6_readCreditor 103 = .ok (.aload_n 0, 1) := by decide +kernel
theorem dX6_readCreditor_104 : decode cX6_readCreditor 104 = .ok (.getfield 12, 3) := by decide +kernel
theorem dX6_readCreditor_107 : decode cX6_readCreditor 107 = .ok (.getfield 99, 3) := by decide +kernel
theorem dX6_readCreditor_110 : decode cX6_readCreditor 110 = .ok (.iload_n 1, 1) := by decide +kernel
theorem dX6_readCreditor_111 : decode cX6_readCreditor 111 = .ok (.iaload, 1) := by decide +kernel
theorem dX6_readCreditor_112 : decode cX6_readCreditor 112 = .ok (.if_icmp .ge 12, 3) := by decide +kernel
theorem dX6_readCreditor_115 : decode cX6_readCreditor 115 = .ok (.aload_n 0, 1) := by decide +kernel
theorem dX6_readCreditor_116 : decode cX6_readCreditor 116 = .ok (.iconst 4, 1) := by decide +kernel
theorem dX6_readCreditor_117 : decode cX6_readCreditor 117 = .ok (.aload_n 0, 1) := by decide +kernel
theorem dX6_readCreditor_118 : decode cX6_readCreditor 118 = .ok (.getfield 105, 3) := by decide +kernel
theorem dX6_readCreditor_121 : decode cX6_readCreditor 121 = .ok (.invokevirtual 62, 3) := by decide +kernel
theorem dX6_readCreditor_124 : decode cX6_readCreditor 124 = .ok (.aload_n 0, 1) := by decide +kernel
theorem dX6_readCreditor_125 : decode cX6_readCreditor 125 = .ok (.getfield 12, 3) := by decide +kernel
theorem dX6_readCreditor_128 : decode cX6_readCreditor 128 = .ok (.getfield 108, 3) := by decide +kernel
theorem dX6_readCreditor_131 : decode cX6_readCreditor 131 = .ok (.iload_n 1, 1) := by decide +kernel
theorem dX6_readCreditor_132 : decode cX6_readCreditor 132 = .ok (.aload_n 0, 1) := by decide +kernel
theorem dX6_readCreditor_133 : decode cX6_readCreditor 133 = .ok (.iconst 1, 1) := by decide +kernel
theorem dX6_readCreditor_134 : decode cX6_readCreditor 134 = .ok (.bipush 9, 2) := by decide +kernel
theorem dX6_readCreditor_136 : decode cX6_readCreditor 136 = .ok (.invokevirtual 66, 3) := by decide +kernel
theorem dX6_readCreditor_139 : decode cX6_readCreditor 139 = .ok (.iastore, 1) := by decide +kernel
theorem dX6_readCreditor_140 : decode cX6_readCreditor 140 = .ok (.aload_n 0, 1) := by decide +kernel
theorem dX6_readCreditor_141 : decode cX6_readCreditor 141 = .ok (.bipush 59, 2) := by decide +kernel
theorem dX6_readCreditor_143 : decode cX6_readCreditor 143 = .ok (.invokevirtual 76, 3) := by decide +kernel
theorem dX6_readCreditor_146 : decode cX6_readCreditor 146 = .ok (.aload_n 0, 1) := by decide +kernel
theorem dX6_readCreditor_147 : decode cX6_readCreditor 147 = .ok (.getfield 12, 3) := by decide +kernel
theorem dX6_readCreditor_150 : decode cX6_readCreditor 150 = .ok (.dup, 1) := by decide +kernel
theorem dX6_readCreditor_151 : decode cX6_readCreditor 151 = .ok (.getfield 90, 3) := by decide +kernel
theorem dX6_readCreditor_154 : decode cX6_readCreditor 154 = .ok (.iconst 1, 1) := by decide +kernel
theorem dX6_readCreditor_155 : decode cX6_readCreditor 155 = .ok (.iadd, 1) := by decide +kernel
theorem dX6_readCreditor_156 : decode cX6_readCreditor 156 = .ok (.putfield 90, 3) := by decide +kernel
theorem dX6_readCreditor_159 : decode cX6_readCreditor 159 = .ok (.return_, 1) := by decide +kernel
theorem dX6_readPerson_0 : decode cX6_readPerson 0 = .ok (.aload_n 0, 1) := by decide +kernel
theorem dX6_readPerson_1 : decode cX6_readPerson 1 = .ok (.getfield 12, 3) := by decide +kernel
theorem dX6_readPerson_4 : decode cX6_readPerson 4 = .ok (.getfield 93, 3) := by decide +kernel
theorem dX6_readPerson_7 : decode cX6_readPerson 7 = .ok (.istore_n 2, 1) := by decide +kernel
theorem dX6_readPerson_8 : decode cX6_readPerson 8 = .ok (.iload_n 2, 1) := by decide +kernel
theorem dX6_readPerson_9 : decode cX6_readPerson 9 = .ok (.bipush 8, 2) := by decide +kernel
theorem dX6_readPerson_11 : decode cX6_readPerson 11 = .ok (.if_icmp .ge 13, 3) := by decide +kernel
theorem dX6_readPerson_14 : decode cX6_readPerson 14 = .ok (.aload_n 0, 1) := by decide +kernel
theorem dX6_readPerson_15 : decode cX6_readPerson 15 = .ok (.getfield 12, 3) := by decide +kernel
theorem dX6_readPerson_18 : decode cX6_readPerson 18 = .ok (.getfield 90, 3) := by decide +kernel
theorem dX6_readPerson_21 : decode cX6_readPerson 21 = .ok (.ifCond .ne 13, 3) := by decide +kernel
theorem dX6_readPerson_24 : decode cX6_readPerson 24 = .ok (.aload_n 0, 1) := by decide +kernel
theorem dX6_readPerson_25 : decode cX6_readPerson 25 = .ok (.iconst 3, 1) := by decide +kernel
theorem dX6_readPerson_26 : decode cX6_readPerson 26 = .ok (.aload_n 0, 1) := by decide +kernel
theorem dX6_readPerson_27 : decode cX6_readPerson 27 = .ok (.getfield 45, 3) := by decide +kernel
theorem dX6_readPerson_30 : decode cX6_readPerson 30 = .ok (.invokevirtual 62, 3) := by decide +kernel
theorem dX6_readPerson_33 : decode cX6_readPerson 33 = .ok (.return_, 1) := by decide +kernel
theorem dX6_readPerson_34 : decode cX6_readPerson 34 = .ok (.aload_n 0, 1) := by decide +kernel
theorem dX6_readPerson_35 : decode cX6_readPerson 35 = .ok (.dup, 1) := by decide +kernel
theorem dX6_readPerson_36 : decode cX6_readPerson 36 = .ok (.getfield 45, 3) := by decide +kernel
theorem dX6_readPerson_39 : decode cX6_readPerson 39 = .ok (.iconst 1, 1) := by decide +kernel
theorem dX6_readPerson_40 : decode cX6_readPerson 40 = .ok (.iadd, 1) := by decide +kernel
theorem dX6_readPerson_41 : decode cX6_readPerson 41 = .ok (.putfield 45, 3) := by decide +kernel
theorem dX6_readPerson_44 : decode cX6_readPerson 44 = .ok (.iconst 0, 1) := by decide +kernel
theorem dX6_readPerson_45 : decode cX6_readPerson 45 = .ok (.istore_n 3, 1) := by decide +kernel
theorem dX6_readPerson_46 : decode cX6_readPerson 46 = .ok (.iload_n 3, 1) := by decide +kernel
theorem dX6_readPerson_47 : decode cX6_readPerson 47 = .ok (.aload_n 0, 1) := by decide +kernel
theorem dX6_readPerson_48 : decode cX6_readPerson 48 = .ok (.getfield 12, 3) := by decide +kernel
theorem dX6_readPerson_51 : decode cX6_readPerson 51 = .ok (.getfield 90, 3) := by decide +kernel
theorem dX6_readPerson_54 : decode cX6_readPerson 54 = .ok (.if_icmp .ge 36, 3) := by decide +kernel
theorem dX6_readPerson_57 : decode cX6_readPerson 57 = .ok (.iload_n 3, 1) := by decide +kernel
theorem dX6_readPerson_58 : decode cX6_readPerson 58 = .ok (.ifCond .le 9, 3) := by decide +kernel
theorem dX6_readPerson_61 : decode cX6_readPerson 61 = .ok (.aload_n 0, 1) := by decide +kernel
theorem dX6_readPerson_62 : decode cX6_readPerson 62 = .ok (.bipush 44, 2) := by decide +kernel
theorem dX6_readPerson_64 : decode cX6_readPerson 64 = .ok (.invokevirtual 76, 3) := by decide +kernel
theorem dX6_readPerson_67 : decode cX6_readPerson 67 = .ok (.aload_n 0, 1) := by decide +kernel
theorem dX6_readPerson_68 : decode cX6_readPerson 68 = .ok (.getfield 23, 3) := by decide +kernel
theorem dX6_readPerson_71 : decode cX6_readPerson 71 = .ok (.iload_n 2, 1) := by decide +kernel
theorem dX6_readPerson_72 : decode cX6_readPerson 72 = .ok (.iload_n 3, 1) := by decide +kernel
theorem dX6_readPerson_73 : decode cX6_readPerson 73 = .ok (.aload_n 0, 1) := by decide +kernel
theorem dX6_readPerson_74 : decode cX6_readPerson 74 = .ok (.iconst 0, 1) := by decide +kernel
theorem dX6_readPerson_75 : decode cX6_readPerson 75 = .ok (.sipush 999, 3) := by decide +kernel
theorem dX6_readPerson_78 : decode cX6_readPerson 78 = .ok (.invokevirtual 66, 3) := by decide +kernel
theorem dX6_readPerson_81 : decode cX6_readPerson 81 = .ok (.invokevirtual 111, 3) := by decide +kernel
theorem dX6_readPerson_84 : decode cX6_readPerson 84 = .ok (.iinc 3 1, 3) := by decide +kernel
theorem dX6_readPerson_87 : decode cX6_readPerson 87 = .ok (.goto (-41), 3) := by decide +kernel
theorem dX6_readPerson_90 : decode cX6_readPerson 90 = .ok (.aload_n 0, 1) := by decide +kernel
theorem dX6_readPerson_91 : decode cX6_readPerson 91 = .ok (.bipush 59, 2) := by decide +kernel
theorem dX6_readPerson_93 : decode cX6_readPerson 93 = .ok (.invokevirtual 76, 3) := by decide +kernel
theorem dX6_readPerson_96 : decode cX6_readPerson 96 = .ok (.iload_n 1, 1) := by decide +kernel
theorem dX6_readPerson_97 : decode cX6_readPerson 97 = .ok (.ifCond .eq 18, 3) := by decide +kernel
theorem dX6_readPerson_100 : decode cX6_readPerson 100 = .ok (.aload_n 0, 1) := by decide +kernel
theorem dX6_readPerson_101 : decode cX6_readPerson 101 = .ok (.getfield 12, 3) := by decide +kernel
theorem dX6_readPerson_104 : decode cX6_readPerson 104 = .ok (.dup, 1) := by decide +kernel
theorem dX6_readPerson_105 : decode cX6_readPerson 105 = .ok (.getfield 115, 3) := by decide +kernel
theorem dX6_readPerson_108 : decode cX6_readPerson 108 = .ok (.iconst 1, 1) := by decide +kernel
theorem dX6_readPerson_109 : decode cX6_readPerson 109 = .ok (.iload_n 2, 1) := by decide +kernel
theorem dX6_readPerson_110 : decode cX6_readPerson 110 = .ok (.ishl, 1) := by decide +kernel
theorem dX6_readPerson_111 : decode cX6_readPerson 111 = .ok (.ior, 1) := by decide +kernel
theorem dX6_readPerson_112 : decode cX6_readPerson 112 = .ok (.putfield 115, 3) := by decide +kernel
theorem dX6_readPerson_115 : decode cX6_readPerson 115 = .ok (.aload_n 0, 1) := by decide +kernel
theorem dX6_readPerson_116 : decode cX6_readPerson 116 = .ok (.getfield 12, 3) := by decide +kernel
theorem dX6_readPerson_119 : decode cX6_readPerson 119 = .ok (.dup, 1) := by decide +kernel
theorem dX6_readPerson_120 : decode cX6_readPerson 120 = .ok (.getfield 93, 3) := by decide +kernel
theorem dX6_readPerson_123 : decode cX6_readPerson 123 = .ok (.iconst 1, 1) := by decide +kernel
theorem dX6_readPerson_124 : decode cX6_readPerson 124 = .ok (.iadd, 1) := by decide +kernel
theorem dX6_readPerson_125 : decode cX6_readPerson 125 = .ok (.putfield 93, 3) := by decide +kernel
theorem dX6_readPerson_128 : decode cX6_readPerson 128 = .ok (.return_, 1) := by decide +kernel
theorem dX6_nextSign_0 : decode cX6_nextSign 0 = .ok (.aload_n 0, 1) := by decide +kernel
theorem dX6_nextSign_1 : decode cX6_nextSign 1 = .ok (.getfield 45, 3) := by decide +kernel
theorem dX6_nextSign_4 : decode cX6_nextSign 4 = .ok (.aload_n 0, 1) := by decide +kernel
theorem dX6_nextSign_5 : decode cX6_nextSign 5 = .ok (.getfield 35, 3) := by decide +kernel
theorem dX6_nextSign_8 : decode cX6_nextSign 8 = .ok (.if_icmp .ge 30, 3) := by decide +kernel
theorem dX6_nextSign_11 : decode cX6_nextSign 11 = .ok (.aload_n 0, 1) := by decide +kernel
theorem dX6_nextSign_12 : decode cX6_nextSign 12 = .ok (.getfield 27, 3) := by decide +kernel
theorem dX6_nextSign_15 : decode cX6_nextSign 15 = .ok (.aload_n 0, 1) := by decide +kernel
theorem dX6_nextSign_16 : decode cX6_nextSign 16 = .ok (.getfield 45, 3) := by decide +kernel
theorem dX6_nextSign_19 : decode cX6_nextSign 19 = .ok (.iaload, 1) := by decide +kernel
theorem dX6_nextSign_20 : decode cX6_nextSign 20 = .ok (.bipush 32, 2) := by decide +kernel
theorem dX6_nextSign_22 : decode cX6_nextSign 22 = .ok (.if_icmp .ne 16, 3) := by decide +kernel
theorem dX6_nextSign_25 : decode cX6_nextSign 25 = .ok (.aload_n 0, 1) := by decide +kernel
theorem dX6_nextSign_26 : decode cX6_nextSign 26 = .ok (.dup, 1) := by decide +kernel
theorem dX6_nextSign_27 : decode cX6_nextSign 27 = .ok (.getfield 45, 3) := by decide +kernel
theorem dX6_nextSign_30 : decode cX6_nextSign 30 = .ok (.iconst 1, 1) := by decide +kernel
theorem dX6_nextSign_31 : decode cX6_nextSign 31 = .ok (.iadd, 1) := by decide +kernel
theorem dX6_nextSign_32 : decode cX6_nextSign 32 = .ok (.putfield 45, 3) := by decide +kernel
theorem dX6_nextSign_35 : decode cX6_nextSign 35 = .ok (.goto (-35), 3) := by decide +kernel
theorem dX6_nextSign_38 : decode cX6_nextSign 38 = .ok (.aload_n 0, 1) := by decide +kernel
theorem dX6_nextSign_39 : decode cX6_nextSign 39 = .ok (.getfield 45, 3) := by decide +kernel
theorem dX6_nextSign_42 : decode cX6_nextSign 42 = .ok (.aload_n 0, 1) := by decide +kernel
theorem dX6_nextSign_43 : decode cX6_nextSign 43 = .ok (.getfield 35, 3) := by decide +kernel
theorem dX6_nextSign_46 : decode cX6_nextSign 46 = .ok (.if_icmp .ge 15, 3) := by decide +kernel
theorem dX6_nextSign_49 : decode cX6_nextSign 49 = .ok (.aload_n 0, 1) := by decide +kernel
theorem dX6_nextSign_50 : decode cX6_nextSign 50 = .ok (.getfield 27, 3) := by decide +kernel
theorem dX6_nextSign_53 : decode cX6_nextSign 53 = .ok (.aload_n 0, 1) := by decide +kernel
theorem dX6_nextSign_54 : decode cX6_nextSign 54 = .ok (.getfield 45, 3) := by decide +kernel
theorem dX6_nextSign_57 : decode cX6_nextSign 57 = .ok (.iaload, 1) := by decide +kernel
theorem dX6_nextSign_58 : decode cX6_nextSign 58 = .ok (.goto 4, 3) := by decide +kernel
theorem dX6_nextSign_61 : decode cX6_nextSign 61 = .ok (.iconst (-1), 1) := by decide +kernel
theorem dX6_nextSign_62 : decode cX6_nextSign 62 = .ok (.ireturn, 1) := by decide +kernel
theorem dX6_readSign_0 : decode cX6_readSign 0 = .ok (.aload_n 0, 1) := by decide +kernel
theorem dX6_readSign_1 : decode cX6_readSign 1 = .ok (.invokevirtual 48, 3) := by decide +kernel
theorem dX6_readSign_4 : decode cX6_readSign 4 = .ok (.iload_n 1, 1) := by decide +kernel
theorem dX6_readSign_5 : decode cX6_readSign 5 = .ok (.if_icmp .ne 16, 3) := by decide +kernel
theorem dX6_readSign_8 : decode cX6_readSign 8 = .ok (.aload_n 0, 1) := by decide +kernel
theorem dX6_readSign_9 : decode cX6_readSign 9 = .ok (.dup, 1) := by decide +kernel
theorem dX6_readSign_10 : decode cX6_readSign 10 = .ok (.getfield 45, 3) := by decide +kernel
theorem dX6_readSign_13 : decode cX6_readSign 13 = .ok (.iconst 1, 1) := by decide +kernel
theorem dX6_readSign_14 : decode cX6_readSign 14 = .ok (.iadd, 1) := by decide +kernel
theorem dX6_readSign_15 : decode cX6_readSign 15 = .ok (.putfield 45, 3) := by decide +kernel
theorem dX6_readSign_18 : decode cX6_readSign 18 = .ok (.goto 12, 3) := by decide +kernel
theorem dX6_readSign_21 : decode cX6_readSign 21 = .ok (.aload_n 0, 1) := by decide +kernel
theorem dX6_readSign_22 : decode cX6_readSign 22 = .ok (.iconst 1, 1) := by decide +kernel
theorem dX6_readSign_23 : decode cX6_readSign 23 = .ok (.aload_n 0, 1) := by decide +kernel
theorem dX6_readSign_24 : decode cX6_readSign 24 = .ok (.getfield 45, 3) := by decide +kernel
theorem dX6_readSign_27 : decode cX6_readSign 27 = .ok (.invokevirtual 62, 3) := by decide +kernel
theorem dX6_readSign_30 : decode cX6_readSign 30 = .ok (.return_, 1) := by decide +kernel
theorem dX6_readNumber_0 : decode cX6_readNumber 0 = .ok (.aload_n 0, 1) := by decide +kernel
theorem dX6_readNumber_1 : decode cX6_readNumber 1 = .ok (.invokevirtual 48, 3) := by decide +kernel
theorem dX6_readNumber_4 : decode cX6_readNumber 4 = .ok (.istore_n 3, 1) := by decide +kernel
theorem dX6_readNumber_5 : decode cX6_readNumber 5 = .ok (.aload_n 0, 1) := by decide +kernel
theorem dX6_readNumber_6 : decode cX6_readNumber 6 = .ok (.aload_n 0, 1) := by decide +kernel
theorem dX6_readNumber_7 : decode cX6_readNumber 7 = .ok (.getfield 45, 3) := by decide +kernel
theorem dX6_readNumber_10 : decode cX6_readNumber 10 = .ok (.putfield 105, 3) := by decide +kernel
theorem dX6_readNumber_13 : decode cX6_readNumber 13 = .ok (.iload_n 3, 1) := by decide +kernel
theorem dX6_readNumber_14 : decode cX6_readNumber 14 = .ok (.invokestatic 118, 3) := by decide +kernel
theorem dX6_readNumber_17 : decode cX6_readNumber 17 = .ok (.ifCond .ne 14, 3) := by decide +kernel
theorem dX6_readNumber_20 : decode cX6_readNumber 20 = .ok (.aload_n 0, 1) := by decide +kernel
theorem dX6_readNumber_21 : decode cX6_readNumber 21 = .ok (.iconst 1, 1) := by decide +kernel
theorem dX6_readNumber_22 : decode cX6_readNumber 22 = .ok (.aload_n 0, 1) := by decide +kernel
theorem dX6_readNumber_23 : decode cX6_readNumber 23 = .ok (.getfield 45, 3) := by decide +kernel
theorem dX6_readNumber_26 : decode cX6_readNumber 26 = .ok (.invokevirtual 62, 3) := by decide +kernel
theorem dX6_readNumber_29 : decode cX6_readNumber 29 = .ok (.iconst 0, 1) := by decide +kernel
theorem dX6_readNumber_30 : decode cX6_readNumber 30 = .ok (.ireturn, 1) := by decide +kernel
theorem dX6_readNumber_31 : decode cX6_readNumber 31 = .ok (.iconst 0, 1) := by decide +kernel
theorem dX6_readNumber_32 : decode cX6_readNumber 32 = .ok (.istore 4, 2) := by decide +kernel
theorem dX6_readNumber_34 : decode cX6_readNumber 34 = .ok (.aload_n 0, 1) := by decide +kernel
theorem dX6_readNumber_35 : decode cX6_readNumber 35 = .ok (.getfield 45, 3) := by decide +kernel
theorem dX6_readNumber_38 : decode cX6_readNumber 38 = .ok (.aload_n 0, 1) := by decide +kernel
theorem dX6_readNumber_39 : decode cX6_readNumber 39 = .ok (.getfield 35, 3) := by decide +kernel
theorem dX6_readNumber_42 : decode cX6_readNumber 42 = .ok (.if_icmp .ge 64, 3) := by decide +kernel
theorem dX6_readNumber_45 : decode cX6_readNumber 45 = .ok (.aload_n 0, 1) := by decide +kernel
theorem dX6_readNumber_46 : decode cX6_readNumber 46 = .ok (.getfield 27, 3) := by decide +kernel
theorem dX6_readNumber_49 : decode cX6_readNumber 49 = .ok (.aload_n 0, 1) := by decide +kernel
theorem dX6_readNumber_50 : decode cX6_readNumber 50 = .ok (.getfield 45, 3) := by decide +kernel
theorem dX6_readNumber_53 : decode cX6_readNumber 53 = .ok (.iaload, 1) := by decide +kernel
theorem dX6_readNumber_54 : decode cX6_readNumber 54 = .ok (.invokestatic 118, 3) := by decide +kernel
theorem dX6_readNumber_57 : decode cX6_readNumber 57 = .ok (.ifCond .eq 49, 3) := by decide +kernel
theorem dX6_readNumber_60 : decode cX6_readNumber 60 = .ok (.aload_n 0, 1) := by decide +kernel
theorem dX6_readNumber_61 : decode cX6_readNumber 61 = .ok (.getfield 45, 3) := by decide +kernel
theorem dX6_readNumber_64 : decode cX6_readNumber 64 = .ok (.aload_n 0, 1) := by decide +kernel
theorem dX6_readNumber_65 : decode cX6_readNumber 65 = .ok (.getfield 105, 3) := by decide +kernel
theorem dX6_readNumber_68 : decode cX6_readNumber 68 = .ok (.isub, 1) := by decide +kernel
theorem dX6_readNumber_69 : decode cX6_readNumber 69 = .ok (.iconst 3, 1) := by decide +kernel
theorem dX6_readNumber_70 : decode cX6_readNumber 70 = .ok (.if_icmp .ge 23, 3) := by decide +kernel
theorem dX6_readNumber_73 : decode cX6_readNumber 73 = .ok (.iload 4, 2) := by decide +kernel
theorem dX6_readNumber_75 : decode cX6_readNumber 75 = .ok (.bipush 10, 2) := by decide +kernel
theorem dX6_readNumber_77 : decode cX6_readNumber 77 = .ok (.imul, 1) := by decide +kernel
theorem dX6_readNumber_78 : decode cX6_readNumber 78 = .ok (.aload_n 0, 1) := by decide +kernel
theorem dX6_readNumber_79 : decode cX6_readNumber 79 = .ok (.getfield 27, 3) := by decide +kernel
theorem dX6_readNumber_82 : decode cX6_readNumber 82 = .ok (.aload_n 0, 1) := by decide +kernel
theorem dX6_readNumber_83 : decode cX6_readNumber 83 = .ok (.getfield 45, 3) := by decide +kernel
theorem dX6_readNumber_86 : decode cX6_readNumber 86 = .ok (.iaload, 1) := by decide +kernel
theorem dX6_readNumber_87 : decode cX6_readNumber 87 = .ok (.iadd, 1) := by decide +kernel
theorem dX6_readNumber_88 : decode cX6_readNumber 88 = .ok (.bipush 48, 2) := by decide +kernel
theorem dX6_readNumber_90 : decode cX6_readNumber 90 = .ok (.isub, 1) := by decide +kernel
theorem dX6_readNumber_91 : decode cX6_readNumber 91 = .ok (.istore 4, 2) := by decide +kernel
theorem dX6_readNumber_93 : decode cX6_readNumber 93 = .ok (.aload_n 0, 1) := by decide +kernel
theorem dX6_readNumber_94 : decode cX6_readNumber 94 = .ok (.dup, 1) := by decide +kernel
theorem dX6_readNumber_95 : decode cX6_readNumber 95 = .ok (.getfield 45, 3) := by decide +kernel
theorem dX6_readNumber_98 : decode cX6_readNumber 98 = .ok (.iconst 1, 1) := by decide +kernel
theorem dX6_readNumber_99 : decode cX6_readNumber 99 = .ok (.iadd, 1) := by decide +kernel
theorem dX6_readNumber_100 : decode cX6_readNumber 100 = .ok (.putfield 45, 3) := by decide +kernel
theorem dX6_readNumber_103 : decode cX6_readNumber 103 = .ok (.goto (-69), 3) := by decide +kernel
theorem dX6_readNumber_106 : decode cX6_readNumber 106 = .ok (.aload_n 0, 1) := by decide +kernel
theorem dX6_readNumber_107 : decode cX6_readNumber 107 = .ok (.getfield 45, 3) := by decide +kernel
theorem dX6_readNumber_110 : decode cX6_readNumber 110 = .ok (.aload_n 0, 1) := by decide +kernel
theorem dX6_readNumber_111 : decode cX6_readNumber 111 = .ok (.getfield 105, 3) := by decide +kernel
theorem dX6_readNumber_114 : decode cX6_readNumber 114 = .ok (.isub, 1) := by decide +kernel
theorem dX6_readNumber_115 : decode cX6_readNumber 115 = .ok (.iconst 3, 1) := by decide +kernel
theorem dX6_readNumber_116 : decode cX6_readNumber 116 = .ok (.if_icmp .gt 15, 3) := by decide +kernel
theorem dX6_readNumber_119 : decode cX6_readNumber 119 = .ok (.iload 4, 2) := by decide +kernel
theorem dX6_readNumber_121 : decode cX6_readNumber 121 = .ok (.iload_n 1, 1) := by decide +kernel
theorem dX6_readNumber_122 : decode cX6_readNumber 122 = .ok (.if_icmp .lt 9, 3) := by decide +kernel
theorem dX6_readNumber_125 : decode cX6_readNumber 125 = .ok (.iload 4, 2) := by decide +kernel
theorem dX6_readNumber_127 : decode cX6_readNumber 127 = .ok (.iload_n 2, 1) := by decide +kernel
theorem dX6_readNumber_128 : decode cX6_readNumber 128 = .ok (.if_icmp .le 12, 3) := by decide +kernel
theorem dX6_readNumber_131 : decode cX6_readNumber 131 = .ok (.aload_n 0, 1) := by decide +kernel
theorem dX6_readNumber_132 : decode cX6_readNumber 132 = .ok (.iconst 2, 1) := by decide +kernel
theorem dX6_readNumber_133 : decode cX6_readNumber 133 = .ok (.aload_n 0, 1) := by decide +kernel
theorem dX6_readNumber_134 : decode cX6_readNumber 134 = .ok (.getfield 105, 3) := by decide +kernel
theorem dX6_readNumber_137 : decode cX6_readNumber 137 = .ok (.invokevirtual 62, 3) := by decide +kernel
theorem dX6_readNumber_140 : decode cX6_readNumber 140 = .ok (.iload 4, 2) := by decide +kernel
theorem dX6_readNumber_142 : decode cX6_readNumber 142 = .ok (.ireturn, 1) := by decide +kernel
theorem dX6_isFigure_0 : decode cX6_isFigure 0 = .ok (.iload_n 0, 1) := by decide +kernel
theorem dX6_isFigure_1 : decode cX6_isFigure 1 = .ok (.bipush 48, 2) := by decide +kernel
theorem dX6_isFigure_3 : decode cX6_isFigure 3 = .ok (.if_icmp .lt 13, 3) := by decide +kernel
theorem dX6_isFigure_6 : decode cX6_isFigure 6 = .ok (.iload_n 0, 1) := by decide +kernel
theorem dX6_isFigure_7 : decode cX6_isFigure 7 = .ok (.bipush 57, 2) := by decide +kernel
theorem dX6_isFigure_9 : decode cX6_isFigure 9 = .ok (.if_icmp .gt 7, 3) := by decide +kernel
theorem dX6_isFigure_12 : decode cX6_isFigure 12 = .ok (.iconst 1, 1) := by decide +kernel
theorem dX6_isFigure_13 : decode cX6_isFigure 13 = .ok (.goto 4, 3) := by decide +kernel
theorem dX6_isFigure_16 : decode cX6_isFigure 16 = .ok (.iconst 0, 1) := by decide +kernel
theorem dX6_isFigure_17 : decode cX6_isFigure 17 = .ok (.ireturn, 1) := by decide +kernel
theorem dX6_blame_0 : decode cX6_blame 0 = .ok (.aload_n 0, 1) := by decide +kernel
theorem dX6_blame_1 : decode cX6_blame 1 = .ok (.getfield 42, 3) := by decide +kernel
theorem dX6_blame_4 : decode cX6_blame 4 = .ok (.ifCond .ne 13, 3) := by decide +kernel
theorem dX6_blame_7 : decode cX6_blame 7 = .ok (.aload_n 0, 1) := by decide +kernel
theorem dX6_blame_8 : decode cX6_blame 8 = .ok (.iload_n 1, 1) := by decide +kernel
theorem dX6_blame_9 : decode cX6_blame 9 = .ok (.putfield 42, 3) := by decide +kernel
theorem dX6_blame_12 : decode cX6_blame 12 = .ok (.aload_n 0, 1) := by decide +kernel
theorem dX6_blame_13 : decode cX6_blame 13 = .ok (.iload_n 2, 1) := by decide +kernel
theorem dX6_blame_14 : decode cX6_blame 14 = .ok (.putfield 31, 3) := by decide +kernel
theorem dX6_blame_17 : decode cX6_blame 17 = .ok (.return_, 1) := by decide +kernel
